/-! Instructions, by program: part 1. -/
noncomputable section XCode1
def xc1_0 : List (Nat × Instr × Nat) := [(0, .aload_n 0, 1), (1, .invokespecial 1, 3), (4, .aload_n 0, 1), (5, .new 7, 3), (8, .dup, 1), (9, .invokespecial 9, 3), (12, .putfield 10, 3), (15, .aload_n 0, 1), (16, .new 16, 3), (19, .dup, 1), (20, .invokespecial 18, 3), (23, .putfield 19, 3), (26, .aload_n 0, 1), (27, .bipush 12, 2), (29, .anewarray 23, 3), (32, .putfield 25, 3), (35, .aload_n 0, 1), (36, .new 29, 3), (39, .dup, 1), (40, .iconst 0, 1), (41, .invokespecial 31, 3), (44, .putfield 34, 3), (47, .aload_n 0, 1), (48, .new 29, 3), (51, .dup, 1), (52, .iconst 1, 1), (53, .invokespecial 31, 3), (56, .putfield 38, 3), (59, .aload_n 0, 1), (60, .new 29, 3), (63, .dup, 1), (64, .iconst 0, 1), (65, .invokespecial 31, 3), (68, .putfield 41, 3), (71, .aload_n 0, 1), (72, .new 44, 3), (75, .dup, 1), (76, .invokespecial 46, 3), (79, .putfield 47, 3), (82, .aload_n 0, 1), (83, .new 44, 3), (86, .dup, 1), (87, .invokespecial 46, 3), (90, .putfield 51, 3), (93, .aload_n 0, 1), (94, .new 54, 3), (97, .dup, 1), (98, .sipush 200, 3)]
theorem xo1_0 : x_cOk prog_1_method_1_code xc1_0 = true := x_cOk_w (by decide +kernel)
def xc1_1 : List (Nat × Instr × Nat) := [(101, .iconst 4, 1), (102, .invokespecial 56, 3), (105, .putfield 59, 3), (108, .aload_n 0, 1), (109, .bipush 6, 2), (111, .anewarray 63, 3), (114, .putfield 65, 3), (117, .aload_n 0, 1), (118, .new 54, 3), (121, .dup, 1), (122, .bipush 60, 2), (124, .iconst 5, 1), (125, .invokespecial 56, 3), (128, .putfield 69, 3), (131, .aload_n 0, 1), (132, .new 54, 3), (135, .dup, 1), (136, .bipush 8, 2), (138, .iconst 2, 1), (139, .invokespecial 56, 3), (142, .putfield 72, 3), (145, .aload_n 0, 1), (146, .new 54, 3), (149, .dup, 1), (150, .bipush 8, 2), (152, .iconst 4, 1), (153, .invokespecial 56, 3), (156, .putfield 75, 3), (159, .aload_n 0, 1), (160, .new 78, 3), (163, .dup, 1), (164, .invokespecial 80, 3), (167, .putfield 81, 3), (170, .aload_n 0, 1), (171, .new 85, 3), (174, .dup, 1), (175, .invokespecial 87, 3), (178, .putfield 88, 3), (181, .aload_n 0, 1), (182, .iconst 3, 1), (183, .anewarray 92, 3), (186, .dup, 1), (187, .iconst 0, 1), (188, .new 92, 3), (191, .dup, 1), (192, .invokespecial 94, 3), (195, .aastore, 1), (196, .dup, 1)]
theorem xo1_1 : x_cOk prog_1_method_1_code xc1_1 = true := x_cOk_w (by decide +kernel)
def xc1_2 : List (Nat × Instr × Nat) := [(197, .iconst 1, 1), (198, .new 92, 3), (201, .dup, 1), (202, .invokespecial 94, 3), (205, .aastore, 1), (206, .dup, 1), (207, .iconst 2, 1), (208, .new 92, 3), (211, .dup, 1), (212, .invokespecial 94, 3), (215, .aastore, 1), (216, .putfield 95, 3), (219, .return_, 1)]
theorem xo1_2 : x_cOk prog_1_method_1_code xc1_2 = true := x_cOk_w (by decide +kernel)
def xg1 : Nat → Option (Instr × Nat) := fun pc => if pc < 101 then x_at2 pc xc1_0 else if pc < 197 then x_at2 pc xc1_1 else x_at2 pc xc1_2
theorem xh1 : x_Good prog_1_method_1_code xg1 := by
  unfold xg1
  exact x_Good_ite (x_Good_l xo1_0) (x_Good_ite (x_Good_l xo1_1) (x_Good_l xo1_2))
def xm1 : XM := (⟨"TwoDigits", "<init>", "()V"⟩, prog_1_method_1_code, 1, none, 0, 0, 0, 68, 4252, true, xg1)
def xc2_0 : List (Nat × Instr × Nat) := [(0, .aload_n 0, 1), (1, .invokespecial 3, 3), (4, .aload_n 0, 1), (5, .sipush 160, 3), (8, .newarray .int, 2), (10, .putfield 11, 3), (13, .return_, 1)]
theorem xo2_0 : x_cOk prog_11_method_1_code xc2_0 = true := x_cOk_w (by decide +kernel)
def xg2 : Nat → Option (Instr × Nat) := fun pc => x_at2 pc xc2_0
theorem xh2 : x_Good prog_11_method_1_code xg2 := by
  unfold xg2
  exact x_Good_l xo2_0
def xm2 : XM := (⟨"TwoDigits$Tape", "<init>", "()V"⟩, prog_11_method_1_code, 1, none, 1, 1, 0, 1, 160, true, xg2)
def xc3_0 : List (Nat × Instr × Nat) := [(0, .aload_n 0, 1), (1, .invokespecial 1, 3), (4, .aload_n 0, 1), (5, .bipush 12, 2), (7, .newarray .int, 2), (9, .putfield 9, 3), (12, .aload_n 0, 1), (13, .bipush 12, 2), (15, .newarray .int, 2), (17, .putfield 13, 3), (20, .aload_n 0, 1), (21, .bipush 12, 2), (23, .newarray .int, 2), (25, .putfield 16, 3), (28, .aload_n 0, 1), (29, .bipush 12, 2), (31, .newarray .int, 2), (33, .putfield 19, 3), (36, .return_, 1)]
theorem xo3_0 : x_cOk prog_3_method_1_code xc3_0 = true := x_cOk_w (by decide +kernel)
def xg3 : Nat → Option (Instr × Nat) := fun pc => x_at2 pc xc3_0
theorem xh3 : x_Good prog_3_method_1_code xg3 := by
  unfold xg3
  exact x_Good_l xo3_0
def xm3 : XM := (⟨"TwoDigits$Code", "<init>", "()V"⟩, prog_3_method_1_code, 1, none, 2, 2, 0, 4, 48, true, xg3)
def xc4_0 : List (Nat × Instr × Nat) := [(0, .aload_n 0, 1), (1, .invokespecial 3, 3), (4, .aload_n 0, 1), (5, .bipush 6, 2), (7, .newarray .int, 2), (9, .dup, 1), (10, .iconst 0, 1), (11, .iconst 2, 1), (12, .iastore, 1), (13, .dup, 1), (14, .iconst 1, 1), (15, .iconst 2, 1), (16, .iastore, 1), (17, .dup, 1), (18, .iconst 2, 1), (19, .iconst 2, 1), (20, .iastore, 1), (21, .dup, 1), (22, .iconst 3, 1), (23, .iconst 2, 1), (24, .iastore, 1), (25, .dup, 1), (26, .iconst 4, 1), (27, .iconst 2, 1), (28, .iastore, 1), (29, .dup, 1), (30, .iconst 5, 1), (31, .iconst 2, 1), (32, .iastore, 1), (33, .putfield 9, 3), (36, .aload_n 0, 1), (37, .bipush 6, 2), (39, .newarray .int, 2), (41, .dup, 1), (42, .iconst 0, 1), (43, .iconst (-1), 1), (44, .iastore, 1), (45, .dup, 1), (46, .iconst 1, 1), (47, .iconst (-1), 1), (48, .iastore, 1), (49, .dup, 1), (50, .iconst 2, 1), (51, .iconst (-1), 1), (52, .iastore, 1), (53, .dup, 1), (54, .iconst 3, 1), (55, .iconst (-1), 1)]
theorem xo4_0 : x_cOk prog_8_method_1_code xc4_0 = true := x_cOk_w (by decide +kernel)
def xc4_1 : List (Nat × Instr × Nat) := [(56, .iastore, 1), (57, .dup, 1), (58, .iconst 4, 1), (59, .iconst (-1), 1), (60, .iastore, 1), (61, .dup, 1), (62, .iconst 5, 1), (63, .iconst (-1), 1), (64, .iastore, 1), (65, .putfield 15, 3), (68, .aload_n 0, 1), (69, .iload_n 1, 1), (70, .putfield 18, 3), (73, .aload_n 0, 1), (74, .iload_n 1, 1), (75, .ifCond .eq 7, 3), (78, .iconst 2, 1), (79, .goto 4, 3), (82, .iconst 0, 1), (83, .putfield 22, 3), (86, .return_, 1)]
theorem xo4_1 : x_cOk prog_8_method_1_code xc4_1 = true := x_cOk_w (by decide +kernel)
def xg4 : Nat → Option (Instr × Nat) := fun pc => if pc < 56 then x_at2 pc xc4_0 else x_at2 pc xc4_1
theorem xh4 : x_Good prog_8_method_1_code xg4 := by
  unfold xg4
  exact x_Good_ite (x_Good_l xo4_0) (x_Good_l xo4_1)
def xm4 : XM := (⟨"TwoDigits$Setting", "<init>", "(Z)V"⟩, prog_8_method_1_code, 2, none, 3, 3, 1, 2, 12, true, xg4)
def xc5_0 : List (Nat × Instr × Nat) := [(0, .aload_n 0, 1), (1, .invokespecial 3, 3), (4, .aload_n 0, 1), (5, .bipush 6, 2), (7, .newarray .int, 2), (9, .putfield 9, 3), (12, .aload_n 0, 1), (13, .new 15, 3), (16, .dup, 1), (17, .invokespecial 17, 3), (20, .putfield 18, 3), (23, .aload_n 0, 1), (24, .new 22, 3), (27, .dup, 1), (28, .invokespecial 24, 3), (31, .putfield 25, 3), (34, .aload_n 0, 1), (35, .new 29, 3), (38, .dup, 1), (39, .iconst 0, 1), (40, .invokespecial 31, 3), (43, .putfield 34, 3), (46, .aload_n 0, 1), (47, .aload_n 0, 1), (48, .getfield 18, 3), (51, .putfield 38, 3), (54, .aload_n 0, 1), (55, .aload_n 0, 1), (56, .getfield 18, 3), (59, .putfield 41, 3), (62, .aload_n 0, 1), (63, .iconst 0, 1), (64, .putfield 44, 3), (67, .return_, 1)]
theorem xo5_0 : x_cOk prog_7_method_1_code xc5_0 = true := x_cOk_w (by decide +kernel)
def xg5 : Nat → Option (Instr × Nat) := fun pc => x_at2 pc xc5_0
theorem xh5 : x_Good prog_7_method_1_code xg5 := by
  unfold xg5
  exact x_Good_l xo5_0
def xm5 : XM := (⟨"TwoDigits$Runner", "<init>", "()V"⟩, prog_7_method_1_code, 1, none, 4, 4, 0, 11, 89, true, xg5)
def xc6_0 : List (Nat × Instr × Nat) := [(0, .aload_n 0, 1), (1, .invokespecial 1, 3), (4, .aload_n 0, 1), (5, .bipush 12, 2), (7, .newarray .int, 2), (9, .putfield 9, 3), (12, .return_, 1)]
theorem xo6_0 : x_cOk prog_6_method_1_code xc6_0 = true := x_cOk_w (by decide +kernel)
def xg6 : Nat → Option (Instr × Nat) := fun pc => x_at2 pc xc6_0
theorem xh6 : x_Good prog_6_method_1_code xg6 := by
  unfold xg6
  exact x_Good_l xo6_0
def xm6 : XM := (⟨"TwoDigits$Row", "<init>", "()V"⟩, prog_6_method_1_code, 1, none, 5, 5, 0, 1, 12, true, xg6)
def xc7_0 : List (Nat × Instr × Nat) := [(0, .aload_n 0, 1), (1, .invokespecial 3, 3), (4, .aload_n 0, 1), (5, .iload_n 1, 1), (6, .putfield 9, 3), (9, .aload_n 0, 1), (10, .iload_n 2, 1), (11, .putfield 15, 3), (14, .aload_n 0, 1), (15, .iload_n 1, 1), (16, .iload_n 2, 1), (17, .imul, 1), (18, .newarray .int, 2), (20, .putfield 18, 3), (23, .return_, 1)]
theorem xo7_0 : x_cOk prog_10_method_1_code xc7_0 = true := x_cOk_w (by decide +kernel)
def xg7 : Nat → Option (Instr × Nat) := fun pc => x_at2 pc xc7_0
theorem xh7 : x_Good prog_10_method_1_code xg7 := by
  unfold xg7
  exact x_Good_l xo7_0
def xm7 : XM := (⟨"TwoDigits$Table", "<init>", "(II)V"⟩, prog_10_method_1_code, 3, none, 6, 6, 2, 1, 800, true, xg7)
def xc8_0 : List (Nat × Instr × Nat) := [(0, .aload_n 0, 1), (1, .invokespecial 3, 3), (4, .aload_n 0, 1), (5, .bipush 8, 2), (7, .newarray .int, 2), (9, .putfield 9, 3), (12, .aload_n 0, 1), (13, .bipush 8, 2), (15, .newarray .int, 2), (17, .putfield 15, 3), (20, .aload_n 0, 1), (21, .bipush 8, 2), (23, .newarray .int, 2), (25, .putfield 18, 3), (28, .aload_n 0, 1), (29, .bipush 8, 2), (31, .newarray .int, 2), (33, .putfield 21, 3), (36, .aload_n 0, 1), (37, .bipush 8, 2), (39, .newarray .int, 2), (41, .putfield 24, 3), (44, .aload_n 0, 1), (45, .sipush 256, 3), (48, .newarray .int, 2), (50, .putfield 27, 3), (53, .return_, 1)]
theorem xo8_0 : x_cOk prog_4_method_1_code xc8_0 = true := x_cOk_w (by decide +kernel)
def xg8 : Nat → Option (Instr × Nat) := fun pc => x_at2 pc xc8_0
theorem xh8 : x_Good prog_4_method_1_code xg8 := by
  unfold xg8
  exact x_Good_l xo8_0
def xm8 : XM := (⟨"TwoDigits$Posts", "<init>", "()V"⟩, prog_4_method_1_code, 1, none, 7, 7, 0, 6, 296, true, xg8)
def xc9_0 : List (Nat × Instr × Nat) := [(0, .aload_n 0, 1), (1, .invokespecial 3, 3), (4, .aload_n 0, 1), (5, .bipush 40, 2), (7, .newarray .int, 2), (9, .putfield 11, 3), (12, .aload_n 0, 1), (13, .bipush 40, 2), (15, .newarray .int, 2), (17, .putfield 15, 3), (20, .aload_n 0, 1), (21, .bipush 20, 2), (23, .newarray .int, 2), (25, .putfield 18, 3), (28, .return_, 1)]
theorem xo9_0 : x_cOk prog_12_method_1_code xc9_0 = true := x_cOk_w (by decide +kernel)
def xg9 : Nat → Option (Instr × Nat) := fun pc => x_at2 pc xc9_0
theorem xh9 : x_Good prog_12_method_1_code xg9 := by
  unfold xg9
  exact x_Good_l xo9_0
def xm9 : XM := (⟨"TwoDigits$Things", "<init>", "()V"⟩, prog_12_method_1_code, 1, none, 8, 8, 0, 3, 100, true, xg9)
def xc10_0 : List (Nat × Instr × Nat) := [(0, .aload_n 0, 1), (1, .invokespecial 3, 3), (4, .aload_n 0, 1), (5, .bipush 40, 2), (7, .newarray .int, 2), (9, .putfield 11, 3), (12, .aload_n 0, 1), (13, .iconst (-1), 1), (14, .putfield 15, 3), (17, .return_, 1)]
theorem xo10_0 : x_cOk prog_9_method_1_code xc10_0 = true := x_cOk_w (by decide +kernel)
def xg10 : Nat → Option (Instr × Nat) := fun pc => x_at2 pc xc10_0
theorem xh10 : x_Good prog_9_method_1_code xg10 := by
  unfold xg10
  exact x_Good_l xo10_0
def xm10 : XM := (⟨"TwoDigits$Sheet", "<init>", "()V"⟩, prog_9_method_1_code, 1, none, 9, 9, 0, 1, 40, true, xg10)
def xc11_0 : List (Nat × Instr × Nat) := [(0, .iload_n 2, 1), (1, .ifCond .lt 8, 3), (4, .iload_n 2, 1), (5, .iconst 4, 1), (6, .if_icmp .le 6, 3), (9, .bipush (-2), 2), (11, .ireturn, 1), (12, .aload_n 0, 1), (13, .getfield 10, 3), (16, .iload_n 1, 1), (17, .iload_n 2, 1), (18, .invokevirtual 99, 3), (21, .ifCond .eq 13, 3), (24, .aload_n 0, 1), (25, .getfield 10, 3), (28, .getfield 103, 3), (31, .goto 5, 3), (34, .bipush (-4), 2), (36, .ireturn, 1)]
theorem xo11_0 : x_cOk prog_1_method_2_code xc11_0 = true := x_cOk_w (by decide +kernel)
def xg11 : Nat → Option (Instr × Nat) := fun pc => x_at2 pc xc11_0
theorem xh11 : x_Good prog_1_method_2_code xg11 := by
  unfold xg11
  exact x_Good_l xo11_0
def xm11 : XM := (⟨"TwoDigits", "feed", "(II)I"⟩, prog_1_method_2_code, 3, some .int, 0, 0, 2, 0, 0, false, xg11)
def xc12_0 : List (Nat × Instr × Nat) := [(0, .iload_n 2, 1), (1, .sipush 160, 3), (4, .aload_n 0, 1), (5, .getfield 15, 3), (8, .isub, 1), (9, .if_icmp .le 5, 3), (12, .iconst 0, 1), (13, .ireturn, 1), (14, .iload_n 2, 1), (15, .iconst 1, 1), (16, .isub, 1), (17, .istore_n 3, 1), (18, .iload_n 3, 1), (19, .ifCond .lt 38, 3), (22, .aload_n 0, 1), (23, .getfield 11, 3), (26, .aload_n 0, 1), (27, .getfield 15, 3), (30, .iload_n 1, 1), (31, .bipush 8, 2), (33, .iload_n 3, 1), (34, .imul, 1), (35, .ishr, 1), (36, .sipush 255, 3), (39, .iand, 1), (40, .iastore, 1), (41, .aload_n 0, 1), (42, .dup, 1), (43, .getfield 15, 3), (46, .iconst 1, 1), (47, .iadd, 1), (48, .putfield 15, 3), (51, .iinc 3 (-1), 3), (54, .goto (-36), 3), (57, .iconst 1, 1), (58, .ireturn, 1)]
theorem xo12_0 : x_cOk prog_11_method_2_code xc12_0 = true := x_cOk_w (by decide +kernel)
def xg12 : Nat → Option (Instr × Nat) := fun pc => x_at2 pc xc12_0
theorem xh12 : x_Good prog_11_method_2_code xg12 := by
  unfold xg12
  exact x_Good_l xo12_0
def xm12 : XM := (⟨"TwoDigits$Tape", "take", "(II)Z"⟩, prog_11_method_2_code, 4, some .boolean, 1, 1, 2, 0, 0, false, xg12)
def xc13_0 : List (Nat × Instr × Nat) := [(0, .aload_n 0, 1), (1, .getfield 107, 3), (4, .bipush 12, 2), (6, .if_icmp .lt 6, 3), (9, .bipush (-4), 2), (11, .ireturn, 1), (12, .aload_n 0, 1), (13, .getfield 10, 3), (16, .aload_n 0, 1), (17, .getfield 19, 3), (20, .invokevirtual 110, 3), (23, .istore_n 1, 1), (24, .aload_n 0, 1), (25, .getfield 10, 3), (28, .iconst 0, 1), (29, .putfield 103, 3), (32, .iload_n 1, 1), (33, .iconst (-1), 1), (34, .if_icmp .eq 8, 3), (37, .bipush (-10), 2), (39, .iload_n 1, 1), (40, .isub, 1), (41, .ireturn, 1), (42, .aload_n 0, 1), (43, .getfield 25, 3), (46, .aload_n 0, 1), (47, .getfield 107, 3), (50, .new 23, 3), (53, .dup, 1), (54, .aload_n 0, 1), (55, .getfield 19, 3), (58, .invokespecial 114, 3), (61, .aastore, 1), (62, .aload_n 0, 1), (63, .new 16, 3), (66, .dup, 1), (67, .invokespecial 18, 3), (70, .putfield 19, 3), (73, .aload_n 0, 1), (74, .dup, 1), (75, .getfield 107, 3), (78, .iconst 1, 1), (79, .iadd, 1), (80, .putfield 107, 3), (83, .aload_n 0, 1), (84, .getfield 107, 3), (87, .iconst 1, 1), (88, .isub, 1)]
theorem xo13_0 : x_cOk prog_1_method_3_code xc13_0 = true := x_cOk_w (by decide +kernel)
def xc13_1 : List (Nat × Instr × Nat) := [(89, .ireturn, 1)]
theorem xo13_1 : x_cOk prog_1_method_3_code xc13_1 = true := x_cOk_w (by decide +kernel)
def xg13 : Nat → Option (Instr × Nat) := fun pc => if pc < 89 then x_at2 pc xc13_0 else x_at2 pc xc13_1
theorem xh13 : x_Good prog_1_method_3_code xg13 := by
  unfold xg13
  exact x_Good_ite (x_Good_l xo13_0) (x_Good_l xo13_1)
def xm13 : XM := (⟨"TwoDigits", "program", "()I"⟩, prog_1_method_3_code, 2, some .int, 0, 0, 0, 19, 159, false, xg13)
def xc14_0 : List (Nat × Instr × Nat) := [(0, .aload_n 0, 1), (1, .iconst 0, 1), (2, .putfield 19, 3), (5, .aload_n 1, 1), (6, .iconst 0, 1), (7, .putfield 22, 3), (10, .iconst 1, 1), (11, .istore_n 2, 1), (12, .iload_n 2, 1), (13, .bipush 12, 2), (15, .if_icmp .gt 40, 3), (18, .aload_n 0, 1), (19, .aload_n 1, 1), (20, .invokevirtual 25, 3), (23, .ifCond .ne 8, 3), (26, .aload_n 0, 1), (27, .getfield 19, 3), (30, .ireturn, 1), (31, .iload_n 2, 1), (32, .bipush 12, 2), (34, .if_icmp .eq 21, 3), (37, .aload_n 0, 1), (38, .bipush 59, 2), (40, .invokevirtual 29, 3), (43, .ifCond .ne 6, 3), (46, .goto 9, 3), (49, .iinc 2 1, 3), (52, .goto (-40), 3), (55, .aload_n 0, 1), (56, .getfield 19, 3), (59, .aload_n 0, 1), (60, .getfield 15, 3), (63, .if_icmp .ne 7, 3), (66, .iconst (-1), 1), (67, .goto 7, 3), (70, .aload_n 0, 1), (71, .getfield 19, 3), (74, .ireturn, 1)]
theorem xo14_0 : x_cOk prog_11_method_3_code xc14_0 = true := x_cOk_w (by decide +kernel)
def xg14 : Nat → Option (Instr × Nat) := fun pc => x_at2 pc xc14_0
theorem xh14 : x_Good prog_11_method_3_code xg14 := by
  unfold xg14
  exact x_Good_l xo14_0
def xm14 : XM := (⟨"TwoDigits$Tape", "readAll", "(LTwoDigits$Code;)I"⟩, prog_11_method_3_code, 3, some .int, 1, 1, 1, 0, 0, false, xg14)
def xc15_0 : List (Nat × Instr × Nat) := [(0, .aload_n 0, 1), (1, .iconst 0, 1), (2, .putfield 33, 3), (5, .aload_n 0, 1), (6, .iconst 0, 1), (7, .putfield 36, 3), (10, .aload_n 0, 1), (11, .iconst 0, 1), (12, .putfield 39, 3), (15, .aload_n 0, 1), (16, .invokevirtual 42, 3), (19, .istore_n 2, 1), (20, .iload_n 2, 1), (21, .bipush 7, 2), (23, .if_icmp .ne 11, 3), (26, .aload_n 0, 1), (27, .invokevirtual 46, 3), (30, .istore_n 2, 1), (31, .goto 18, 3), (34, .iload_n 2, 1), (35, .iconst (-1), 1), (36, .if_icmp .eq 13, 3), (39, .aload_n 0, 1), (40, .iload_n 2, 1), (41, .invokevirtual 49, 3), (44, .ifCond .ne 5, 3), (47, .iconst (-1), 1), (48, .istore_n 2, 1), (49, .iload_n 2, 1), (50, .iconst (-1), 1), (51, .if_icmp .eq 27, 3), (54, .aload_n 1, 1), (55, .iload_n 2, 1), (56, .aload_n 0, 1), (57, .getfield 33, 3), (60, .aload_n 0, 1), (61, .getfield 36, 3), (64, .aload_n 0, 1), (65, .getfield 39, 3), (68, .invokevirtual 52, 3), (71, .ifCond .eq 7, 3), (74, .iconst 1, 1), (75, .goto 4, 3), (78, .iconst 0, 1), (79, .ireturn, 1)]
theorem xo15_0 : x_cOk prog_11_method_4_code xc15_0 = true := x_cOk_w (by decide +kernel)
def xg15 : Nat → Option (Instr × Nat) := fun pc => x_at2 pc xc15_0
theorem xh15 : x_Good prog_11_method_4_code xg15 := by
  unfold xg15
  exact x_Good_l xo15_0
def xm15 : XM := (⟨"TwoDigits$Tape", "readLine", "(LTwoDigits$Code;)Z"⟩, prog_11_method_4_code, 3, some .boolean, 1, 1, 1, 0, 0, false, xg15)
def xc16_0 : List (Nat × Instr × Nat) := [(0, .iconst 0, 1), (1, .istore_n 1, 1), (2, .iconst 0, 1), (3, .istore_n 2, 1), (4, .iload_n 2, 1), (5, .bipush 11, 2), (7, .if_icmp .ge 50, 3), (10, .iload_n 2, 1), (11, .invokestatic 56, 3), (14, .astore_n 3, 1), (15, .aload_n 0, 1), (16, .aload_n 3, 1), (17, .invokevirtual 60, 3), (20, .istore 4, 2), (22, .iload 4, 2), (24, .aload_n 3, 1), (25, .invokevirtual 64, 3), (28, .if_icmp .ne 16, 3), (31, .aload_n 0, 1), (32, .dup, 1), (33, .getfield 19, 3), (36, .iload 4, 2), (38, .iadd, 1), (39, .putfield 19, 3), (42, .iload_n 2, 1), (43, .ireturn, 1), (44, .iload_n 1, 1), (45, .iload 4, 2), (47, .invokestatic 69, 3), (50, .istore_n 1, 1), (51, .iinc 2 1, 3), (54, .goto (-50), 3), (57, .aload_n 0, 1), (58, .dup, 1), (59, .getfield 19, 3), (62, .iload_n 1, 1), (63, .iadd, 1), (64, .putfield 19, 3), (67, .iconst (-1), 1), (68, .ireturn, 1)]
theorem xo16_0 : x_cOk prog_11_method_5_code xc16_0 = true := x_cOk_w (by decide +kernel)
def xg16 : Nat → Option (Instr × Nat) := fun pc => x_at2 pc xc16_0
theorem xh16 : x_Good prog_11_method_5_code xg16 := by
  unfold xg16
  exact x_Good_l xo16_0
def xm16 : XM := (⟨"TwoDigits$Tape", "readWord", "()I"⟩, prog_11_method_5_code, 5, some .int, 1, 1, 0, 0, 0, false, xg16)
def xc17_0 : List (Nat × Instr × Nat) := [(0, .iload_n 0, 1), (1, .tableswitch 85 0 9 #[55, 58, 61, 64, 67, 70, 73, 76, 79, 82], 55), (56, .ldc 22, 2), (58, .areturn, 1), (59, .ldc 24, 2), (61, .areturn, 1), (62, .ldc 26, 2), (64, .areturn, 1), (65, .ldc 28, 2), (67, .areturn, 1), (68, .ldc 30, 2), (70, .areturn, 1), (71, .ldc 32, 2), (73, .areturn, 1), (74, .ldc 34, 2), (76, .areturn, 1), (77, .ldc 36, 2), (79, .areturn, 1), (80, .ldc 38, 2), (82, .areturn, 1), (83, .ldc 40, 2), (85, .areturn, 1), (86, .ldc 42, 2), (88, .areturn, 1)]
theorem xo17_0 : x_cOk prog_3_method_2_code xc17_0 = true := x_cOk_w (by decide +kernel)
def xg17 : Nat → Option (Instr × Nat) := fun pc => x_at2 pc xc17_0
theorem xh17 : x_Good prog_3_method_2_code xg17 := by
  unfold xg17
  exact x_Good_l xo17_0
def xm17 : XM := (⟨"TwoDigits$Code", "wordOf", "(I)Ljava/lang/String;"⟩, prog_3_method_2_code, 1, some (.object "java/lang/String"), 2, 2, 1, 0, 0, false, xg17)
def xc18_0 : List (Nat × Instr × Nat) := [(0, .iconst 0, 1), (1, .istore_n 2, 1), (2, .iload_n 2, 1), (3, .aload_n 1, 1), (4, .invokevirtual 64, 3), (7, .if_icmp .ge 41, 3), (10, .aload_n 0, 1), (11, .getfield 19, 3), (14, .iload_n 2, 1), (15, .iadd, 1), (16, .aload_n 0, 1), (17, .getfield 15, 3), (20, .if_icmp .ge 28, 3), (23, .aload_n 0, 1), (24, .getfield 11, 3), (27, .aload_n 0, 1), (28, .getfield 19, 3), (31, .iload_n 2, 1), (32, .iadd, 1), (33, .iaload, 1), (34, .aload_n 1, 1), (35, .iload_n 2, 1), (36, .invokevirtual 75, 3), (39, .if_icmp .ne 9, 3), (42, .iinc 2 1, 3), (45, .goto (-43), 3), (48, .iload_n 2, 1), (49, .ireturn, 1)]
theorem xo18_0 : x_cOk prog_11_method_6_code xc18_0 = true := x_cOk_w (by decide +kernel)
def xg18 : Nat → Option (Instr × Nat) := fun pc => x_at2 pc xc18_0
theorem xh18 : x_Good prog_11_method_6_code xg18 := by
  unfold xg18
  exact x_Good_l xo18_0
def xm18 : XM := (⟨"TwoDigits$Tape", "alikeWith", "(Ljava/lang/String;)I"⟩, prog_11_method_6_code, 3, some .int, 1, 1, 1, 0, 0, false, xg18)
def xc19_0 : List (Nat × Instr × Nat) := [(0, .aload_n 0, 1), (1, .getfield 9, 3), (4, .arraylength, 1), (5, .aload_n 0, 1), (6, .invokevirtual 335, 3), (9, .ishr, 1), (10, .ireturn, 1)]
theorem xo19_0 : x_cOk prog_17_method_54_code xc19_0 = true := x_cOk_w (by decide +kernel)
def xg19 : Nat → Option (Instr × Nat) := fun pc => x_at2 pc xc19_0
theorem xh19 : x_Good prog_17_method_54_code xg19 := by
  unfold xg19
  exact x_Good_l xo19_0
def xm19 : XM := (⟨"java/lang/String", "length", "()I"⟩, prog_17_method_54_code, 1, some .int, 15, 115, 0, 0, 0, false, xg19)
def xc20_0 : List (Nat × Instr × Nat) := [(0, .getstatic 38, 3), (3, .ifCond .eq 10, 3), (6, .aload_n 0, 1), (7, .getfield 15, 3), (10, .goto 4, 3), (13, .iconst 1, 1), (14, .ireturn, 1)]
theorem xo20_0 : x_cOk prog_17_method_152_code xc20_0 = true := x_cOk_w (by decide +kernel)
def xg20 : Nat → Option (Instr × Nat) := fun pc => x_at2 pc xc20_0
theorem xh20 : x_Good prog_17_method_152_code xg20 := by
  unfold xg20
  exact x_Good_l xo20_0
def xm20 : XM := (⟨"java/lang/String", "coder", "()B"⟩, prog_17_method_152_code, 1, some .byte, 15, 115, 0, 0, 0, false, xg20)
def xc21_0 : List (Nat × Instr × Nat) := [(0, .aload_n 0, 1), (1, .invokevirtual 492, 3), (4, .ifCond .eq 12, 3), (7, .aload_n 0, 1), (8, .getfield 9, 3), (11, .iload_n 1, 1), (12, .invokestatic 495, 3), (15, .ireturn, 1), (16, .aload_n 0, 1), (17, .getfield 9, 3), (20, .iload_n 1, 1), (21, .invokestatic 498, 3), (24, .ireturn, 1)]
theorem xo21_0 : x_cOk prog_17_method_56_code xc21_0 = true := x_cOk_w (by decide +kernel)
def xg21 : Nat → Option (Instr × Nat) := fun pc => x_at2 pc xc21_0
theorem xh21 : x_Good prog_17_method_56_code xg21 := by
  unfold xg21
  exact x_Good_l xo21_0
def xm21 : XM := (⟨"java/lang/String", "charAt", "(I)C"⟩, prog_17_method_56_code, 2, some .char, 15, 115, 1, 0, 0, false, xg21)
def xc22_0 : List (Nat × Instr × Nat) := [(0, .getstatic 38, 3), (3, .ifCond .eq 14, 3), (6, .aload_n 0, 1), (7, .getfield 15, 3), (10, .ifCond .ne 7, 3), (13, .iconst 1, 1), (14, .goto 4, 3), (17, .iconst 0, 1), (18, .ireturn, 1)]
theorem xo22_0 : x_cOk prog_17_method_154_code xc22_0 = true := x_cOk_w (by decide +kernel)
def xg22 : Nat → Option (Instr × Nat) := fun pc => x_at2 pc xc22_0
theorem xh22 : x_Good prog_17_method_154_code xg22 := by
  unfold xg22
  exact x_Good_l xo22_0
def xm22 : XM := (⟨"java/lang/String", "isLatin1", "()Z"⟩, prog_17_method_154_code, 1, some .boolean, 15, 115, 0, 0, 0, false, xg22)
def xc23_0 : List (Nat × Instr × Nat) := [(0, .iload_n 1, 1), (1, .aload_n 0, 1), (2, .arraylength, 1), (3, .invokestatic 9, 3), (6, .aload_n 0, 1), (7, .iload_n 1, 1), (8, .baload, 1), (9, .sipush 255, 3), (12, .iand, 1), (13, .i2c, 1), (14, .ireturn, 1)]
theorem xo23_0 : x_cOk prog_18_method_2_code xc23_0 = true := x_cOk_w (by decide +kernel)
def xg23 : Nat → Option (Instr × Nat) := fun pc => x_at2 pc xc23_0
theorem xh23 : x_Good prog_18_method_2_code xg23 := by
  unfold xg23
  exact x_Good_l xo23_0
def xm23 : XM := (⟨"java/lang/StringLatin1", "charAt", "([BI)C"⟩, prog_18_method_2_code, 2, some .char, 16, 116, 2, 0, 0, false, xg23)
def xc24_0 : List (Nat × Instr × Nat) := [(0, .iload_n 0, 1), (1, .iload_n 1, 1), (2, .getstatic 1053, 3), (5, .invokestatic 1059, 3), (8, .pop, 1), (9, .return_, 1)]
theorem xo24_0 : x_cOk prog_17_method_155_code xc24_0 = true := x_cOk_w (by decide +kernel)
def xg24 : Nat → Option (Instr × Nat) := fun pc => x_at2 pc xc24_0
theorem xh24 : x_Good prog_17_method_155_code xg24 := by
  unfold xg24
  exact x_Good_l xo24_0
def xm24 : XM := (⟨"java/lang/String", "checkIndex", "(II)V"⟩, prog_17_method_155_code, 2, none, 15, 115, 2, 0, 0, false, xg24)
def xc25_0 : List (Nat × Instr × Nat) := [(0, .iload_n 0, 1), (1, .ifCond .lt 8, 3), (4, .iload_n 0, 1), (5, .iload_n 1, 1), (6, .if_icmp .lt 10, 3), (9, .aload_n 2, 1), (10, .iload_n 0, 1), (11, .iload_n 1, 1), (12, .invokestatic 95, 3), (15, .athrow, 1), (16, .iload_n 0, 1), (17, .ireturn, 1)]
theorem xo25_0 : x_cOk prog_21_method_11_code xc25_0 = true := x_cOk_w (by decide +kernel)
def xg25 : Nat → Option (Instr × Nat) := fun pc => x_at2 pc xc25_0
theorem xh25 : x_Good prog_21_method_11_code xg25 := by
  unfold xg25
  exact x_Good_l xo25_0
def xm25 : XM := (⟨"jdk/internal/util/Preconditions", "checkIndex", "(IILjava/util/function/BiFunction;)I"⟩, prog_21_method_11_code, 3, some .int, 18, 118, 3, 0, 0, false, xg25)
def xc26_0 : List (Nat × Instr × Nat) := [(0, .iload_n 1, 1), (1, .aload_n 0, 1), (2, .invokestatic 67, 3), (5, .aload_n 0, 1), (6, .iload_n 1, 1), (7, .invokestatic 71, 3), (10, .ireturn, 1)]
theorem xo26_0 : x_cOk prog_19_method_83_code xc26_0 = true := x_cOk_w (by decide +kernel)
def xg26 : Nat → Option (Instr × Nat) := fun pc => x_at2 pc xc26_0
theorem xh26 : x_Good prog_19_method_83_code xg26 := by
  unfold xg26
  exact x_Good_l xo26_0
def xm26 : XM := (⟨"java/lang/StringUTF16", "charAt", "([BI)C"⟩, prog_19_method_83_code, 2, some .char, 17, 117, 2, 0, 0, false, xg26)
def xc27_0 : List (Nat × Instr × Nat) := [(0, .iload_n 0, 1), (1, .aload_n 1, 1), (2, .invokestatic 48, 3), (5, .invokestatic 414, 3), (8, .return_, 1)]
theorem xo27_0 : x_cOk prog_19_method_91_code xc27_0 = true := x_cOk_w (by decide +kernel)
def xg27 : Nat → Option (Instr × Nat) := fun pc => x_at2 pc xc27_0
theorem xh27 : x_Good prog_19_method_91_code xg27 := by
  unfold xg27
  exact x_Good_l xo27_0
def xm27 : XM := (⟨"java/lang/StringUTF16", "checkIndex", "(I[B)V"⟩, prog_19_method_91_code, 2, none, 17, 117, 2, 0, 0, false, xg27)
def xc28_0 : List (Nat × Instr × Nat) := [(0, .aload_n 0, 1), (1, .arraylength, 1), (2, .iconst 1, 1), (3, .ishr, 1), (4, .ireturn, 1)]
theorem xo28_0 : x_cOk prog_19_method_6_code xc28_0 = true := x_cOk_w (by decide +kernel)
def xg28 : Nat → Option (Instr × Nat) := fun pc => x_at2 pc xc28_0
theorem xh28 : x_Good prog_19_method_6_code xg28 := by
  unfold xg28
  exact x_Good_l xo28_0
def xm28 : XM := (⟨"java/lang/StringUTF16", "length", "([B)I"⟩, prog_19_method_6_code, 1, some .int, 17, 117, 1, 0, 0, false, xg28)
def xc29_0 : List (Nat × Instr × Nat) := [(0, .getstatic 44, 3), (3, .ifCond .ne 25, 3), (6, .iload_n 1, 1), (7, .ifCond .lt 11, 3), (10, .iload_n 1, 1), (11, .aload_n 0, 1), (12, .invokestatic 48, 3), (15, .if_icmp .lt 13, 3), (18, .new 52, 3), (21, .dup, 1), (22, .ldc 54, 2), (24, .invokespecial 56, 3), (27, .athrow, 1), (28, .iload_n 1, 1), (29, .iconst 1, 1), (30, .ishl, 1), (31, .istore_n 1, 1), (32, .aload_n 0, 1), (33, .iload_n 1, 1), (34, .iinc 1 1, 3), (37, .baload, 1), (38, .sipush 255, 3), (41, .iand, 1), (42, .getstatic 59, 3), (45, .ishl, 1), (46, .aload_n 0, 1), (47, .iload_n 1, 1), (48, .baload, 1), (49, .sipush 255, 3), (52, .iand, 1), (53, .getstatic 63, 3), (56, .ishl, 1), (57, .ior, 1), (58, .i2c, 1), (59, .ireturn, 1)]
theorem xo29_0 : x_cOk prog_19_method_5_code xc29_0 = true := x_cOk_w (by decide +kernel)
def xg29 : Nat → Option (Instr × Nat) := fun pc => x_at2 pc xc29_0
theorem xh29 : x_Good prog_19_method_5_code xg29 := by
  unfold xg29
  exact x_Good_l xo29_0
def xm29 : XM := (⟨"java/lang/StringUTF16", "getChar", "([BI)C"⟩, prog_19_method_5_code, 2, some .char, 17, 117, 2, 0, 0, false, xg29)
def xc30_0 : List (Nat × Instr × Nat) := [(0, .iload_n 0, 1), (1, .iload_n 1, 1), (2, .if_icmp .lt 7, 3), (5, .iload_n 0, 1), (6, .goto 4, 3), (9, .iload_n 1, 1), (10, .ireturn, 1)]
theorem xo30_0 : x_cOk prog_16_method_65_code xc30_0 = true := x_cOk_w (by decide +kernel)
def xg30 : Nat → Option (Instr × Nat) := fun pc => x_at2 pc xc30_0
theorem xh30 : x_Good prog_16_method_65_code xg30 := by
  unfold xg30
  exact x_Good_l xo30_0
def xm30 : XM := (⟨"java/lang/Math", "max", "(II)I"⟩, prog_16_method_65_code, 2, some .int, 14, 114, 2, 0, 0, false, xg30)
def xc31_0 : List (Nat × Instr × Nat) := [(0, .aload_n 0, 1), (1, .bipush 32, 2), (3, .invokevirtual 29, 3), (6, .ifCond .eq 10, 3), (9, .aload_n 0, 1), (10, .invokevirtual 79, 3), (13, .ifCond .ne 5, 3), (16, .iconst (-1), 1), (17, .ireturn, 1), (18, .iconst (-1), 1), (19, .istore_n 1, 1), (20, .aload_n 0, 1), (21, .bipush 60, 2), (23, .invokevirtual 29, 3), (26, .ifCond .eq 9, 3), (29, .bipush 7, 2), (31, .istore_n 1, 1), (32, .goto 15, 3), (35, .aload_n 0, 1), (36, .bipush 61, 2), (38, .invokevirtual 29, 3), (41, .ifCond .eq 6, 3), (44, .bipush 11, 2), (46, .istore_n 1, 1), (47, .iload_n 1, 1), (48, .iconst (-1), 1), (49, .if_icmp .eq 31, 3), (52, .aload_n 0, 1), (53, .invokevirtual 86, 3), (56, .ifCond .eq 24, 3), (59, .aload_n 0, 1), (60, .bipush 32, 2), (62, .invokevirtual 29, 3), (65, .ifCond .eq 15, 3), (68, .aload_n 0, 1), (69, .iconst 2, 1), (70, .invokevirtual 83, 3), (73, .ifCond .eq 7, 3), (76, .iload_n 1, 1), (77, .goto 4, 3), (80, .iconst (-1), 1), (81, .ireturn, 1)]
theorem xo31_0 : x_cOk prog_11_method_8_code xc31_0 = true := x_cOk_w (by decide +kernel)
def xg31 : Nat → Option (Instr × Nat) := fun pc => x_at2 pc xc31_0
theorem xh31 : x_Good prog_11_method_8_code xg31 := by
  unfold xg31
  exact x_Good_l xo31_0
def xm31 : XM := (⟨"TwoDigits$Tape", "readCondition", "()I"⟩, prog_11_method_8_code, 2, some .int, 1, 1, 0, 0, 0, false, xg31)
def xc32_0 : List (Nat × Instr × Nat) := [(0, .aload_n 0, 1), (1, .getfield 19, 3), (4, .aload_n 0, 1), (5, .getfield 15, 3), (8, .if_icmp .ge 16, 3), (11, .aload_n 0, 1), (12, .getfield 11, 3), (15, .aload_n 0, 1), (16, .getfield 19, 3), (19, .iaload, 1), (20, .iload_n 1, 1), (21, .if_icmp .eq 5, 3), (24, .iconst 0, 1), (25, .ireturn, 1), (26, .aload_n 0, 1), (27, .dup, 1), (28, .getfield 19, 3), (31, .iconst 1, 1), (32, .iadd, 1), (33, .putfield 19, 3), (36, .iconst 1, 1), (37, .ireturn, 1)]
theorem xo32_0 : x_cOk prog_11_method_9_code xc32_0 = true := x_cOk_w (by decide +kernel)
def xg32 : Nat → Option (Instr × Nat) := fun pc => x_at2 pc xc32_0
theorem xh32 : x_Good prog_11_method_9_code xg32 := by
  unfold xg32
  exact x_Good_l xo32_0
def xm32 : XM := (⟨"TwoDigits$Tape", "skip", "(I)Z"⟩, prog_11_method_9_code, 2, some .boolean, 1, 1, 1, 0, 0, false, xg32)
def xc33_0 : List (Nat × Instr × Nat) := [(0, .aload_n 0, 1), (1, .aload_n 0, 1), (2, .invokevirtual 89, 3), (5, .putfield 33, 3), (8, .aload_n 0, 1), (9, .getfield 33, 3), (12, .iconst (-1), 1), (13, .if_icmp .eq 7, 3), (16, .iconst 1, 1), (17, .goto 4, 3), (20, .iconst 0, 1), (21, .ireturn, 1)]
theorem xo33_0 : x_cOk prog_11_method_10_code xc33_0 = true := x_cOk_w (by decide +kernel)
def xg33 : Nat → Option (Instr × Nat) := fun pc => x_at2 pc xc33_0
theorem xh33 : x_Good prog_11_method_10_code xg33 := by
  unfold xg33
  exact x_Good_l xo33_0
def xm33 : XM := (⟨"TwoDigits$Tape", "readLeft", "()Z"⟩, prog_11_method_10_code, 1, some .boolean, 1, 1, 0, 0, 0, false, xg33)
def xc34_0 : List (Nat × Instr × Nat) := [(0, .aload_n 0, 1), (1, .getfield 19, 3), (4, .aload_n 0, 1), (5, .getfield 15, 3), (8, .if_icmp .ge 22, 3), (11, .aload_n 0, 1), (12, .getfield 11, 3), (15, .aload_n 0, 1), (16, .getfield 19, 3), (19, .iaload, 1), (20, .bipush 97, 2), (22, .bipush 102, 2), (24, .invokestatic 92, 3), (27, .ifCond .ne 5, 3), (30, .iconst (-1), 1), (31, .ireturn, 1), (32, .aload_n 0, 1), (33, .dup, 1), (34, .getfield 19, 3), (37, .iconst 1, 1), (38, .iadd, 1), (39, .putfield 19, 3), (42, .aload_n 0, 1), (43, .getfield 11, 3), (46, .aload_n 0, 1), (47, .getfield 19, 3), (50, .iconst 1, 1), (51, .isub, 1), (52, .iaload, 1), (53, .bipush 97, 2), (55, .isub, 1), (56, .ireturn, 1)]
theorem xo34_0 : x_cOk prog_11_method_12_code xc34_0 = true := x_cOk_w (by decide +kernel)
def xg34 : Nat → Option (Instr × Nat) := fun pc => x_at2 pc xc34_0
theorem xh34 : x_Good prog_11_method_12_code xg34 := by
  unfold xg34
  exact x_Good_l xo34_0
def xm34 : XM := (⟨"TwoDigits$Tape", "readLetter", "()I"⟩, prog_11_method_12_code, 1, some .int, 1, 1, 0, 0, 0, false, xg34)
def xc35_0 : List (Nat × Instr × Nat) := [(0, .iload_n 0, 1), (1, .iload_n 1, 1), (2, .if_icmp .lt 12, 3), (5, .iload_n 0, 1), (6, .iload_n 2, 1), (7, .if_icmp .gt 7, 3), (10, .iconst 1, 1), (11, .goto 4, 3), (14, .iconst 0, 1), (15, .ireturn, 1)]
theorem xo35_0 : x_cOk prog_1_method_63_code xc35_0 = true := x_cOk_w (by decide +kernel)
def xg35 : Nat → Option (Instr × Nat) := fun pc => x_at2 pc xc35_0
theorem xh35 : x_Good prog_1_method_63_code xg35 := by
  unfold xg35
  exact x_Good_l xo35_0
def xm35 : XM := (⟨"TwoDigits", "isWithin", "(III)Z"⟩, prog_1_method_63_code, 3, some .boolean, 0, 0, 3, 0, 0, false, xg35)
def xc36_0 : List (Nat × Instr × Nat) := [(0, .aload_n 0, 1), (1, .aload_n 0, 1), (2, .invokevirtual 89, 3), (5, .putfield 36, 3), (8, .aload_n 0, 1), (9, .getfield 36, 3), (12, .iconst (-1), 1), (13, .if_icmp .eq 7, 3), (16, .iconst 1, 1), (17, .goto 4, 3), (20, .iconst 0, 1), (21, .ireturn, 1)]
theorem xo36_0 : x_cOk prog_11_method_11_code xc36_0 = true := x_cOk_w (by decide +kernel)
def xg36 : Nat → Option (Instr × Nat) := fun pc => x_at2 pc xc36_0
theorem xh36 : x_Good prog_11_method_11_code xg36 := by
  unfold xg36
  exact x_Good_l xo36_0
def xm36 : XM := (⟨"TwoDigits$Tape", "readRight", "()Z"⟩, prog_11_method_11_code, 1, some .boolean, 1, 1, 0, 0, 0, false, xg36)
def xc37_0 : List (Nat × Instr × Nat) := [(0, .aload_n 0, 1), (1, .iconst 0, 1), (2, .putfield 39, 3), (5, .iconst 0, 1), (6, .istore_n 2, 1), (7, .iload_n 2, 1), (8, .iload_n 1, 1), (9, .if_icmp .ge 73, 3), (12, .aload_n 0, 1), (13, .getfield 19, 3), (16, .aload_n 0, 1), (17, .getfield 15, 3), (20, .if_icmp .ge 62, 3), (23, .aload_n 0, 1), (24, .getfield 11, 3), (27, .aload_n 0, 1), (28, .getfield 19, 3), (31, .iaload, 1), (32, .bipush 48, 2), (34, .bipush 57, 2), (36, .invokestatic 92, 3), (39, .ifCond .eq 43, 3), (42, .aload_n 0, 1), (43, .aload_n 0, 1), (44, .getfield 39, 3), (47, .bipush 10, 2), (49, .imul, 1), (50, .aload_n 0, 1), (51, .getfield 11, 3), (54, .aload_n 0, 1), (55, .getfield 19, 3), (58, .iaload, 1), (59, .iadd, 1), (60, .bipush 48, 2), (62, .isub, 1), (63, .putfield 39, 3), (66, .iinc 2 1, 3), (69, .aload_n 0, 1), (70, .dup, 1), (71, .getfield 19, 3), (74, .iconst 1, 1), (75, .iadd, 1), (76, .putfield 19, 3), (79, .goto (-72), 3), (82, .iload_n 2, 1), (83, .ifCond .le 7, 3), (86, .iconst 1, 1), (87, .goto 4, 3)]
theorem xo37_0 : x_cOk prog_11_method_13_code xc37_0 = true := x_cOk_w (by decide +kernel)
def xc37_1 : List (Nat × Instr × Nat) := [(90, .iconst 0, 1), (91, .ireturn, 1)]
theorem xo37_1 : x_cOk prog_11_method_13_code xc37_1 = true := x_cOk_w (by decide +kernel)
def xg37 : Nat → Option (Instr × Nat) := fun pc => if pc < 90 then x_at2 pc xc37_0 else x_at2 pc xc37_1
theorem xh37 : x_Good prog_11_method_13_code xg37 := by
  unfold xg37
  exact x_Good_ite (x_Good_l xo37_0) (x_Good_l xo37_1)
def xm37 : XM := (⟨"TwoDigits$Tape", "readNumber", "(I)Z"⟩, prog_11_method_13_code, 3, some .boolean, 1, 1, 1, 0, 0, false, xg37)
def xc38_0 : List (Nat × Instr × Nat) := [(0, .iload_n 1, 1), (1, .tableswitch 216 0 9 #[55, 55, 55, 77, 116, 116, 116, 216, 154, 193], 55), (56, .aload_n 0, 1), (57, .bipush 32, 2), (59, .invokevirtual 29, 3), (62, .ifCond .eq 14, 3), (65, .aload_n 0, 1), (66, .invokevirtual 79, 3), (69, .ifCond .eq 7, 3), (72, .iconst 1, 1), (73, .goto 4, 3), (76, .iconst 0, 1), (77, .ireturn, 1), (78, .aload_n 0, 1), (79, .bipush 32, 2), (81, .invokevirtual 29, 3), (84, .ifCond .eq 31, 3), (87, .aload_n 0, 1), (88, .invokevirtual 79, 3), (91, .ifCond .eq 24, 3), (94, .aload_n 0, 1), (95, .bipush 32, 2), (97, .invokevirtual 29, 3), (100, .ifCond .eq 15, 3), (103, .aload_n 0, 1), (104, .iconst 4, 1), (105, .invokevirtual 83, 3), (108, .ifCond .eq 7, 3), (111, .iconst 1, 1), (112, .goto 4, 3), (115, .iconst 0, 1), (116, .ireturn, 1), (117, .aload_n 0, 1), (118, .bipush 32, 2), (120, .invokevirtual 29, 3), (123, .ifCond .eq 30, 3), (126, .aload_n 0, 1), (127, .invokevirtual 79, 3), (130, .ifCond .eq 23, 3), (133, .aload_n 0, 1), (134, .bipush 32, 2), (136, .invokevirtual 29, 3), (139, .ifCond .eq 14, 3), (142, .aload_n 0, 1), (143, .invokevirtual 86, 3), (146, .ifCond .eq 7, 3), (149, .iconst 1, 1), (150, .goto 4, 3)]
theorem xo38_0 : x_cOk prog_11_method_7_code xc38_0 = true := x_cOk_w (by decide +kernel)
def xc38_1 : List (Nat × Instr × Nat) := [(153, .iconst 0, 1), (154, .ireturn, 1), (155, .aload_n 0, 1), (156, .bipush 32, 2), (158, .invokevirtual 29, 3), (161, .ifCond .eq 31, 3), (164, .aload_n 0, 1), (165, .invokevirtual 79, 3), (168, .ifCond .eq 24, 3), (171, .aload_n 0, 1), (172, .bipush 32, 2), (174, .invokevirtual 29, 3), (177, .ifCond .eq 15, 3), (180, .aload_n 0, 1), (181, .iconst 2, 1), (182, .invokevirtual 83, 3), (185, .ifCond .eq 7, 3), (188, .iconst 1, 1), (189, .goto 4, 3), (192, .iconst 0, 1), (193, .ireturn, 1), (194, .aload_n 0, 1), (195, .bipush 32, 2), (197, .invokevirtual 29, 3), (200, .ifCond .eq 15, 3), (203, .aload_n 0, 1), (204, .iconst 2, 1), (205, .invokevirtual 83, 3), (208, .ifCond .eq 7, 3), (211, .iconst 1, 1), (212, .goto 4, 3), (215, .iconst 0, 1), (216, .ireturn, 1), (217, .iconst 1, 1), (218, .ireturn, 1)]
theorem xo38_1 : x_cOk prog_11_method_7_code xc38_1 = true := x_cOk_w (by decide +kernel)
def xg38 : Nat → Option (Instr × Nat) := fun pc => if pc < 153 then x_at2 pc xc38_0 else x_at2 pc xc38_1
theorem xh38 : x_Good prog_11_method_7_code xg38 := by
  unfold xg38
  exact x_Good_ite (x_Good_l xo38_0) (x_Good_l xo38_1)
def xm38 : XM := (⟨"TwoDigits$Tape", "readParts", "(I)Z"⟩, prog_11_method_7_code, 2, some .boolean, 1, 1, 1, 0, 0, false, xg38)
def xc39_0 : List (Nat × Instr × Nat) := [(0, .aload_n 0, 1), (1, .getfield 44, 3), (4, .bipush 12, 2), (6, .if_icmp .lt 5, 3), (9, .iconst 0, 1), (10, .ireturn, 1), (11, .aload_n 0, 1), (12, .getfield 9, 3), (15, .aload_n 0, 1), (16, .getfield 44, 3), (19, .iload_n 1, 1), (20, .iastore, 1), (21, .aload_n 0, 1), (22, .getfield 13, 3), (25, .aload_n 0, 1), (26, .getfield 44, 3), (29, .iload_n 2, 1), (30, .iastore, 1), (31, .aload_n 0, 1), (32, .getfield 16, 3), (35, .aload_n 0, 1), (36, .getfield 44, 3), (39, .iload_n 3, 1), (40, .iastore, 1), (41, .aload_n 0, 1), (42, .getfield 19, 3), (45, .aload_n 0, 1), (46, .getfield 44, 3), (49, .iload 4, 2), (51, .iastore, 1), (52, .aload_n 0, 1), (53, .dup, 1), (54, .getfield 44, 3), (57, .iconst 1, 1), (58, .iadd, 1), (59, .putfield 44, 3), (62, .iconst 1, 1), (63, .ireturn, 1)]
theorem xo39_0 : x_cOk prog_3_method_3_code xc39_0 = true := x_cOk_w (by decide +kernel)
def xg39 : Nat → Option (Instr × Nat) := fun pc => x_at2 pc xc39_0
theorem xh39 : x_Good prog_3_method_3_code xg39 := by
  unfold xg39
  exact x_Good_l xo39_0
def xm39 : XM := (⟨"TwoDigits$Code", "add", "(IIII)Z"⟩, prog_3_method_3_code, 5, some .boolean, 2, 2, 4, 0, 0, false, xg39)
def xc40_0 : List (Nat × Instr × Nat) := [(0, .aload_n 0, 1), (1, .invokespecial 3, 3), (4, .aload_n 0, 1), (5, .new 9, 3), (8, .dup, 1), (9, .iconst 0, 1), (10, .invokespecial 11, 3), (13, .putfield 14, 3), (16, .aload_n 0, 1), (17, .new 20, 3), (20, .dup, 1), (21, .invokespecial 22, 3), (24, .putfield 23, 3), (27, .aload_n 0, 1), (28, .new 20, 3), (31, .dup, 1), (32, .invokespecial 22, 3), (35, .putfield 27, 3), (38, .aload_n 0, 1), (39, .new 20, 3), (42, .dup, 1), (43, .invokespecial 22, 3), (46, .putfield 30, 3), (49, .aload_n 0, 1), (50, .new 20, 3), (53, .dup, 1), (54, .invokespecial 22, 3), (57, .putfield 33, 3), (60, .aload_n 0, 1), (61, .new 20, 3), (64, .dup, 1), (65, .invokespecial 22, 3), (68, .putfield 36, 3), (71, .aload_n 0, 1), (72, .iconst (-1), 1), (73, .putfield 39, 3), (76, .aload_n 0, 1), (77, .iconst 0, 1), (78, .putfield 43, 3), (81, .aload_n 0, 1), (82, .iconst 0, 1), (83, .putfield 46, 3), (86, .aload_n 0, 1), (87, .iconst 1, 1), (88, .putfield 49, 3), (91, .aload_n 0, 1), (92, .iconst 1, 1), (93, .putfield 52, 3)]
theorem xo40_0 : x_cOk prog_5_method_1_code xc40_0 = true := x_cOk_w (by decide +kernel)
def xc40_1 : List (Nat × Instr × Nat) := [(96, .aload_n 0, 1), (97, .iconst (-1), 1), (98, .putfield 55, 3), (101, .aload_n 0, 1), (102, .iconst (-1), 1), (103, .putfield 58, 3), (106, .aload_n 0, 1), (107, .iconst (-1), 1), (108, .putfield 61, 3), (111, .aload_n 0, 1), (112, .iconst (-1), 1), (113, .putfield 64, 3), (116, .aload_n 0, 1), (117, .iconst (-1), 1), (118, .putfield 67, 3), (121, .aload_n 0, 1), (122, .aload_n 1, 1), (123, .putfield 70, 3), (126, .return_, 1)]
theorem xo40_1 : x_cOk prog_5_method_1_code xc40_1 = true := x_cOk_w (by decide +kernel)
def xg40 : Nat → Option (Instr × Nat) := fun pc => if pc < 96 then x_at2 pc xc40_0 else x_at2 pc xc40_1
theorem xh40 : x_Good prog_5_method_1_code xg40 := by
  unfold xg40
  exact x_Good_ite (x_Good_l xo40_0) (x_Good_l xo40_1)
def xm40 : XM := (⟨"TwoDigits$Program", "<init>", "(LTwoDigits$Code;)V"⟩, prog_5_method_1_code, 2, none, 10, 10, 1, 13, 86, true, xg40)
def xc41_0 : List (Nat × Instr × Nat) := [(0, .aload_n 0, 1), (1, .iload_n 1, 1), (2, .invokevirtual 117, 3), (5, .astore_n 3, 1), (6, .aload_n 3, 1), (7, .ifnonnull 6, 3), (10, .bipush (-5), 2), (12, .ireturn, 1), (13, .iload_n 2, 1), (14, .tableswitch 133 0 10 #[58, 63, 68, 76, 84, 92, 100, 105, 110, 115, 120], 58), (72, .aload_n 3, 1), (73, .getfield 121, 3), (76, .ireturn, 1), (77, .aload_n 3, 1), (78, .getfield 124, 3), (81, .ireturn, 1), (82, .aload_n 3, 1), (83, .getfield 127, 3), (86, .getfield 130, 3), (89, .ireturn, 1), (90, .aload_n 3, 1), (91, .getfield 133, 3), (94, .getfield 136, 3), (97, .ireturn, 1), (98, .aload_n 3, 1), (99, .getfield 137, 3), (102, .getfield 141, 3), (105, .ireturn, 1), (106, .aload_n 3, 1), (107, .getfield 144, 3), (110, .getfield 141, 3), (113, .ireturn, 1), (114, .aload_n 3, 1), (115, .getfield 147, 3), (118, .ireturn, 1), (119, .aload_n 3, 1), (120, .getfield 150, 3), (123, .ireturn, 1), (124, .aload_n 3, 1), (125, .getfield 153, 3), (128, .ireturn, 1), (129, .aload_n 3, 1), (130, .getfield 156, 3), (133, .ireturn, 1), (134, .aload_n 3, 1), (135, .getfield 159, 3), (138, .ifCond .eq 7, 3), (141, .iconst 1, 1)]
theorem xo41_0 : x_cOk prog_1_method_4_code xc41_0 = true := x_cOk_w (by decide +kernel)
def xc41_1 : List (Nat × Instr × Nat) := [(142, .goto 4, 3), (145, .iconst 0, 1), (146, .ireturn, 1), (147, .bipush (-5), 2), (149, .ireturn, 1)]
theorem xo41_1 : x_cOk prog_1_method_4_code xc41_1 = true := x_cOk_w (by decide +kernel)
def xg41 : Nat → Option (Instr × Nat) := fun pc => if pc < 142 then x_at2 pc xc41_0 else x_at2 pc xc41_1
theorem xh41 : x_Good prog_1_method_4_code xg41 := by
  unfold xg41
  exact x_Good_ite (x_Good_l xo41_0) (x_Good_l xo41_1)
def xm41 : XM := (⟨"TwoDigits", "programOf", "(II)I"⟩, prog_1_method_4_code, 4, some .int, 0, 0, 2, 0, 0, false, xg41)
def xc42_0 : List (Nat × Instr × Nat) := [(0, .iload_n 1, 1), (1, .ifCond .lt 20, 3), (4, .iload_n 1, 1), (5, .aload_n 0, 1), (6, .getfield 107, 3), (9, .if_icmp .ge 12, 3), (12, .aload_n 0, 1), (13, .getfield 25, 3), (16, .iload_n 1, 1), (17, .aaload, 1), (18, .goto 4, 3), (21, .aconst_null, 1), (22, .areturn, 1)]
theorem xo42_0 : x_cOk prog_1_method_60_code xc42_0 = true := x_cOk_w (by decide +kernel)
def xg42 : Nat → Option (Instr × Nat) := fun pc => x_at2 pc xc42_0
theorem xh42 : x_Good prog_1_method_60_code xg42 := by
  unfold xg42
  exact x_Good_l xo42_0
def xm42 : XM := (⟨"TwoDigits", "programAt", "(I)LTwoDigits$Program;"⟩, prog_1_method_60_code, 2, some (.object "TwoDigits$Program"), 0, 0, 1, 0, 0, false, xg42)
def xc43_0 : List (Nat × Instr × Nat) := [(0, .aload_n 0, 1), (1, .iload_n 1, 1), (2, .invokevirtual 117, 3), (5, .astore 4, 2), (7, .aload 4, 2), (9, .ifnull 10, 3), (12, .iload_n 2, 1), (13, .invokestatic 163, 3), (16, .ifCond .ne 6, 3), (19, .bipush (-5), 2), (21, .ireturn, 1), (22, .iload_n 3, 1), (23, .tableswitch 55 0 2 #[25, 36, 47], 25), (48, .aload 4, 2), (50, .getfield 127, 3), (53, .getfield 167, 3), (56, .iload_n 2, 1), (57, .iaload, 1), (58, .ireturn, 1), (59, .aload 4, 2), (61, .getfield 127, 3), (64, .getfield 171, 3), (67, .iload_n 2, 1), (68, .iaload, 1), (69, .ireturn, 1), (70, .aload_n 0, 1), (71, .aload 4, 2), (73, .iload_n 2, 1), (74, .invokevirtual 174, 3), (77, .ireturn, 1), (78, .bipush (-5), 2), (80, .ireturn, 1)]
theorem xo43_0 : x_cOk prog_1_method_5_code xc43_0 = true := x_cOk_w (by decide +kernel)
def xg43 : Nat → Option (Instr × Nat) := fun pc => x_at2 pc xc43_0
theorem xh43 : x_Good prog_1_method_5_code xg43 := by
  unfold xg43
  exact x_Good_l xo43_0
def xm43 : XM := (⟨"TwoDigits", "field", "(III)I"⟩, prog_1_method_5_code, 5, some .int, 0, 0, 3, 0, 0, false, xg43)
def xc44_0 : List (Nat × Instr × Nat) := [(0, .iload_n 0, 1), (1, .iconst 0, 1), (2, .iconst 5, 1), (3, .invokestatic 178, 3), (6, .ireturn, 1)]
theorem xo44_0 : x_cOk prog_1_method_67_code xc44_0 = true := x_cOk_w (by decide +kernel)
def xg44 : Nat → Option (Instr × Nat) := fun pc => x_at2 pc xc44_0
theorem xh44 : x_Good prog_1_method_67_code xg44 := by
  unfold xg44
  exact x_Good_l xo44_0
def xm44 : XM := (⟨"TwoDigits", "isField", "(I)Z"⟩, prog_1_method_67_code, 1, some .boolean, 0, 0, 1, 0, 0, false, xg44)
def xc45_0 : List (Nat × Instr × Nat) := [(0, .aload_n 0, 1), (1, .invokevirtual 469, 3), (4, .aload_n 1, 1), (5, .getfield 472, 3), (8, .iload_n 2, 1), (9, .invokestatic 247, 3), (12, .ifCond .eq 5, 3), (15, .iconst 1, 1), (16, .ireturn, 1), (17, .aload_n 1, 1), (18, .getfield 133, 3), (21, .aload_n 1, 1), (22, .getfield 472, 3), (25, .invokevirtual 475, 3), (28, .iload_n 2, 1), (29, .invokestatic 247, 3), (32, .ifCond .eq 7, 3), (35, .iconst 2, 1), (36, .goto 4, 3), (39, .iconst 0, 1), (40, .ireturn, 1)]
theorem xo45_0 : x_cOk prog_1_method_77_code xc45_0 = true := x_cOk_w (by decide +kernel)
def xg45 : Nat → Option (Instr × Nat) := fun pc => x_at2 pc xc45_0
theorem xh45 : x_Good prog_1_method_77_code xg45 := by
  unfold xg45
  exact x_Good_l xo45_0
def xm45 : XM := (⟨"TwoDigits", "yearIn", "(LTwoDigits$Program;I)I"⟩, prog_1_method_77_code, 3, some .int, 0, 0, 2, 0, 0, false, xg45)
def xc46_0 : List (Nat × Instr × Nat) := [(0, .iconst 0, 1), (1, .istore_n 1, 1), (2, .iload_n 1, 1), (3, .aload_n 0, 1), (4, .getfield 107, 3), (7, .if_icmp .ge 19, 3), (10, .aload_n 0, 1), (11, .getfield 25, 3), (14, .iload_n 1, 1), (15, .aaload, 1), (16, .iconst 0, 1), (17, .putfield 472, 3), (20, .iinc 1 1, 3), (23, .goto (-21), 3), (26, .iconst 1, 1), (27, .istore_n 1, 1), (28, .iconst 0, 1), (29, .istore_n 2, 1), (30, .iload_n 1, 1), (31, .ifCond .eq 124, 3), (34, .iload_n 2, 1), (35, .bipush 72, 2), (37, .if_icmp .gt 118, 3), (40, .iconst 0, 1), (41, .istore_n 1, 1), (42, .iconst 0, 1), (43, .istore_n 3, 1), (44, .iload_n 3, 1), (45, .aload_n 0, 1), (46, .getfield 107, 3), (49, .if_icmp .ge 100, 3), (52, .aload_n 0, 1), (53, .getfield 25, 3), (56, .iload_n 3, 1), (57, .aaload, 1), (58, .astore 4, 2), (60, .aload_n 0, 1), (61, .aload 4, 2), (63, .getfield 124, 3), (66, .invokevirtual 117, 3), (69, .astore 5, 2), (71, .aload 5, 2), (73, .ifnull 23, 3), (76, .aload 5, 2), (78, .getfield 133, 3), (81, .aload 5, 2), (83, .getfield 472, 3), (86, .invokevirtual 478, 3)]
theorem xo46_0 : x_cOk prog_1_method_78_code xc46_0 = true := x_cOk_w (by decide +kernel)
def xc46_1 : List (Nat × Instr × Nat) := [(89, .ifCond .eq 7, 3), (92, .iconst 1, 1), (93, .goto 4, 3), (96, .iconst 0, 1), (97, .istore 6, 2), (99, .aload 4, 2), (101, .getfield 133, 3), (104, .aload 4, 2), (106, .getfield 472, 3), (109, .iload 6, 2), (111, .invokevirtual 481, 3), (114, .istore 7, 2), (116, .iload_n 1, 1), (117, .ifCond .ne 13, 3), (120, .iload 7, 2), (122, .aload 4, 2), (124, .getfield 472, 3), (127, .if_icmp .eq 7, 3), (130, .iconst 1, 1), (131, .goto 4, 3), (134, .iconst 0, 1), (135, .istore_n 1, 1), (136, .aload 4, 2), (138, .iload 7, 2), (140, .putfield 472, 3), (143, .iinc 3 1, 3), (146, .goto (-102), 3), (149, .iinc 2 1, 3), (152, .goto (-122), 3), (155, .return_, 1)]
theorem xo46_1 : x_cOk prog_1_method_78_code xc46_1 = true := x_cOk_w (by decide +kernel)
def xg46 : Nat → Option (Instr × Nat) := fun pc => if pc < 89 then x_at2 pc xc46_0 else x_at2 pc xc46_1
theorem xh46 : x_Good prog_1_method_78_code xg46 := by
  unfold xg46
  exact x_Good_ite (x_Good_l xo46_0) (x_Good_l xo46_1)
def xm46 : XM := (⟨"TwoDigits", "findSure", "()V"⟩, prog_1_method_78_code, 8, none, 0, 0, 0, 0, 0, false, xg46)
def xc47_0 : List (Nat × Instr × Nat) := [(0, .iconst 0, 1), (1, .istore_n 2, 1), (2, .iload_n 2, 1), (3, .aload_n 0, 1), (4, .getfield 44, 3), (7, .if_icmp .ge 34, 3), (10, .aload_n 0, 1), (11, .getfield 9, 3), (14, .iload_n 2, 1), (15, .iaload, 1), (16, .iconst 2, 1), (17, .if_icmp .ne 18, 3), (20, .iload_n 1, 1), (21, .aload_n 0, 1), (22, .getfield 13, 3), (25, .iload_n 2, 1), (26, .iaload, 1), (27, .invokestatic 48, 3), (30, .ifCond .eq 5, 3), (33, .iconst 1, 1), (34, .ireturn, 1), (35, .iinc 2 1, 3), (38, .goto (-36), 3), (41, .iconst 0, 1), (42, .ireturn, 1)]
theorem xo47_0 : x_cOk prog_3_method_5_code xc47_0 = true := x_cOk_w (by decide +kernel)
def xg47 : Nat → Option (Instr × Nat) := fun pc => x_at2 pc xc47_0
theorem xh47 : x_Good prog_3_method_5_code xg47 := by
  unfold xg47
  exact x_Good_l xo47_0
def xm47 : XM := (⟨"TwoDigits$Code", "writesAny", "(I)Z"⟩, prog_3_method_5_code, 3, some .boolean, 2, 2, 1, 0, 0, false, xg47)
end XCode1
