/-! Instructions, by program: part 4. -/
noncomputable section XCode4
def xc141_0 : List (Nat × Instr × Nat) := [(0, .iconst 0, 1), (1, .istore_n 3, 1), (2, .iload_n 3, 1), (3, .aload_n 0, 1), (4, .getfield 107, 3), (7, .if_icmp .ge 81, 3), (10, .aload_n 0, 1), (11, .getfield 25, 3), (14, .iload_n 3, 1), (15, .aaload, 1), (16, .astore 4, 2), (18, .aload 4, 2), (20, .getfield 121, 3), (23, .iconst 5, 1), (24, .if_icmp .ne 18, 3), (27, .iload_n 2, 1), (28, .ifCond .ne 14, 3), (31, .aload 4, 2), (33, .getfield 485, 3), (36, .invokevirtual 193, 3), (39, .goto 43, 3), (42, .aload_n 0, 1), (43, .getfield 51, 3), (46, .aload 4, 2), (48, .getfield 133, 3), (51, .aload_n 0, 1), (52, .getfield 38, 3), (55, .aload_n 0, 1), (56, .iload_n 3, 1), (57, .iconst (-1), 1), (58, .invokevirtual 488, 3), (61, .aload 4, 2), (63, .getfield 485, 3), (66, .iload_n 1, 1), (67, .invokevirtual 316, 3), (70, .aload 4, 2), (72, .aload_n 0, 1), (73, .getfield 51, 3), (76, .invokevirtual 320, 3), (79, .putfield 492, 3), (82, .iinc 3 1, 3), (85, .goto (-83), 3), (88, .return_, 1)]
theorem xo141_0 : x_cOk prog_1_method_79_code xc141_0 = true := x_cOk_w (by decide +kernel)
def xg141 : Nat → Option (Instr × Nat) := fun pc => x_at2 pc xc141_0
theorem xh141 : x_Good prog_1_method_79_code xg141 := by
  unfold xg141
  exact x_Good_l xo141_0
def xm141 : XM := (⟨"TwoDigits", "rehearseTwins", "(IZ)V"⟩, prog_1_method_79_code, 5, none, 0, 0, 2, 0, 0, false, xg141)
def xc142_0 : List (Nat × Instr × Nat) := [(0, .aload_n 0, 1), (1, .getfield 25, 3), (4, .iload_n 1, 1), (5, .aaload, 1), (6, .getfield 124, 3), (9, .istore_n 3, 1), (10, .aload_n 0, 1), (11, .iload_n 3, 1), (12, .invokevirtual 117, 3), (15, .astore 4, 2), (17, .aload 4, 2), (19, .ifnonnull 13, 3), (22, .aload_n 0, 1), (23, .getfield 25, 3), (26, .iload_n 1, 1), (27, .aaload, 1), (28, .getfield 190, 3), (31, .areturn, 1), (32, .iload_n 2, 1), (33, .iload_n 3, 1), (34, .invokestatic 247, 3), (37, .ifCond .eq 22, 3), (40, .iload_n 3, 1), (41, .iload_n 1, 1), (42, .if_icmp .ge 11, 3), (45, .aload 4, 2), (47, .getfield 485, 3), (50, .goto 8, 3), (53, .aload 4, 2), (55, .getfield 144, 3), (58, .areturn, 1), (59, .iload_n 3, 1), (60, .iload_n 1, 1), (61, .if_icmp .ge 11, 3), (64, .aload 4, 2), (66, .getfield 495, 3), (69, .goto 8, 3), (72, .aload 4, 2), (74, .getfield 137, 3), (77, .areturn, 1)]
theorem xo142_0 : x_cOk prog_1_method_81_code xc142_0 = true := x_cOk_w (by decide +kernel)
def xg142 : Nat → Option (Instr × Nat) := fun pc => x_at2 pc xc142_0
theorem xh142 : x_Good prog_1_method_81_code xg142 := by
  unfold xg142
  exact x_Good_l xo142_0
def xm142 : XM := (⟨"TwoDigits", "inputThen", "(II)LTwoDigits$Row;"⟩, prog_1_method_81_code, 5, some (.object "TwoDigits$Row"), 0, 0, 2, 0, 0, false, xg142)
def xc143_0 : List (Nat × Instr × Nat) := [(0, .iconst 0, 1), (1, .istore 4, 2), (3, .aload_n 0, 1), (4, .iconst 0, 1), (5, .iload_n 3, 1), (6, .iconst 0, 1), (7, .invokevirtual 380, 3), (10, .istore 5, 2), (12, .iconst 0, 1), (13, .istore 6, 2), (15, .iconst 1, 1), (16, .istore 7, 2), (18, .iload 7, 2), (20, .iload_n 1, 1), (21, .if_icmp .gt 82, 3), (24, .iload 7, 2), (26, .iload_n 1, 1), (27, .iconst (-1), 1), (28, .ixor, 1), (29, .iand, 1), (30, .ifCond .ne 67, 3), (33, .aload_n 0, 1), (34, .iload 7, 2), (36, .invokevirtual 384, 3), (39, .iload_n 2, 1), (40, .if_icmp .le 6, 3), (43, .goto 54, 3), (46, .aload_n 0, 1), (47, .iload 7, 2), (49, .iload_n 3, 1), (50, .iconst 0, 1), (51, .invokevirtual 380, 3), (54, .istore 8, 2), (56, .iload 8, 2), (58, .iload 5, 2), (60, .if_icmp .lt 21, 3), (63, .iload 8, 2), (65, .iload 5, 2), (67, .if_icmp .ne 30, 3), (70, .aload_n 0, 1), (71, .iload 7, 2), (73, .invokevirtual 384, 3), (76, .iload 6, 2), (78, .if_icmp .ge 19, 3), (81, .iload 7, 2), (83, .istore 4, 2), (85, .iload 8, 2), (87, .istore 5, 2)]
theorem xo143_0 : x_cOk prog_1_method_45_code xc143_0 = true := x_cOk_w (by decide +kernel)
def xc143_1 : List (Nat × Instr × Nat) := [(89, .aload_n 0, 1), (90, .iload 7, 2), (92, .invokevirtual 384, 3), (95, .istore 6, 2), (97, .iinc 7 1, 3), (100, .goto (-82), 3), (103, .iload 4, 2), (105, .ireturn, 1)]
theorem xo143_1 : x_cOk prog_1_method_45_code xc143_1 = true := x_cOk_w (by decide +kernel)
def xg143 : Nat → Option (Instr × Nat) := fun pc => if pc < 89 then x_at2 pc xc143_0 else x_at2 pc xc143_1
theorem xh143 : x_Good prog_1_method_45_code xg143 := by
  unfold xg143
  exact x_Good_ite (x_Good_l xo143_0) (x_Good_l xo143_1)
def xm143 : XM := (⟨"TwoDigits", "bestToMend", "(III)I"⟩, prog_1_method_45_code, 9, some .int, 0, 0, 3, 0, 0, false, xg143)
def xc144_0 : List (Nat × Instr × Nat) := [(0, .iconst 0, 1), (1, .istore 4, 2), (3, .iconst 0, 1), (4, .istore 5, 2), (6, .iload 5, 2), (8, .aload_n 0, 1), (9, .getfield 107, 3), (12, .if_icmp .ge 147, 3), (15, .aload_n 0, 1), (16, .getfield 25, 3), (19, .iload 5, 2), (21, .aaload, 1), (22, .astore 6, 2), (24, .aload 6, 2), (26, .getfield 121, 3), (29, .iconst 5, 1), (30, .if_icmp .ne 28, 3), (33, .iload_n 3, 1), (34, .ifCond .ne 24, 3), (37, .aload 6, 2), (39, .getfield 495, 3), (42, .invokevirtual 193, 3), (45, .iload 4, 2), (47, .aload 6, 2), (49, .getfield 153, 3), (52, .iadd, 1), (53, .istore 4, 2), (55, .goto 98, 3), (58, .iload_n 1, 1), (59, .iload 5, 2), (61, .invokestatic 247, 3), (64, .ifCond .ne 89, 3), (67, .aload_n 0, 1), (68, .getfield 47, 3), (71, .aload 6, 2), (73, .getfield 133, 3), (76, .iload_n 3, 1), (77, .ifCond .eq 10, 3), (80, .aload_n 0, 1), (81, .getfield 34, 3), (84, .goto 8, 3), (87, .aload 6, 2), (89, .getfield 127, 3), (92, .aload_n 0, 1), (93, .iload 5, 2), (95, .iload_n 1, 1), (96, .invokevirtual 488, 3), (99, .aload 6, 2)]
theorem xo144_0 : x_cOk prog_1_method_80_code xc144_0 = true := x_cOk_w (by decide +kernel)
def xc144_1 : List (Nat × Instr × Nat) := [(101, .getfield 495, 3), (104, .iload_n 2, 1), (105, .invokevirtual 316, 3), (108, .aload_n 0, 1), (109, .getfield 47, 3), (112, .invokevirtual 320, 3), (115, .istore 7, 2), (117, .iload 7, 2), (119, .aload 6, 2), (121, .getfield 492, 3), (124, .if_icmp .ne 19, 3), (127, .aload 6, 2), (129, .getfield 495, 3), (132, .aload 6, 2), (134, .getfield 485, 3), (137, .invokevirtual 324, 3), (140, .ifCond .ne 13, 3), (143, .iload 4, 2), (145, .aload 6, 2), (147, .getfield 153, 3), (150, .iadd, 1), (151, .istore 4, 2), (153, .iinc 5 1, 3), (156, .goto (-150), 3), (159, .iload 4, 2), (161, .ireturn, 1)]
theorem xo144_1 : x_cOk prog_1_method_80_code xc144_1 = true := x_cOk_w (by decide +kernel)
def xg144 : Nat → Option (Instr × Nat) := fun pc => if pc < 101 then x_at2 pc xc144_0 else x_at2 pc xc144_1
theorem xh144 : x_Good prog_1_method_80_code xg144 := by
  unfold xg144
  exact x_Good_ite (x_Good_l xo144_0) (x_Good_l xo144_1)
def xm144 : XM := (⟨"TwoDigits", "rehearsedHarm", "(IIZ)I"⟩, prog_1_method_80_code, 8, some .int, 0, 0, 3, 0, 0, false, xg144)
def xc145_0 : List (Nat × Instr × Nat) := [(0, .iconst 0, 1), (1, .istore_n 2, 1), (2, .iconst 0, 1), (3, .istore_n 3, 1), (4, .iload_n 3, 1), (5, .aload_n 0, 1), (6, .getfield 107, 3), (9, .if_icmp .ge 29, 3), (12, .iload_n 1, 1), (13, .iload_n 3, 1), (14, .invokestatic 247, 3), (17, .ifCond .eq 15, 3), (20, .iload_n 2, 1), (21, .aload_n 0, 1), (22, .getfield 25, 3), (25, .iload_n 3, 1), (26, .aaload, 1), (27, .getfield 156, 3), (30, .iadd, 1), (31, .istore_n 2, 1), (32, .iinc 3 1, 3), (35, .goto (-31), 3), (38, .iload_n 2, 1), (39, .ireturn, 1)]
theorem xo145_0 : x_cOk prog_1_method_46_code xc145_0 = true := x_cOk_w (by decide +kernel)
def xg145 : Nat → Option (Instr × Nat) := fun pc => x_at2 pc xc145_0
theorem xh145 : x_Good prog_1_method_46_code xg145 := by
  unfold xg145
  exact x_Good_l xo145_0
def xm145 : XM := (⟨"TwoDigits", "daysOf", "(I)I"⟩, prog_1_method_46_code, 4, some .int, 0, 0, 1, 0, 0, false, xg145)
def xc146_0 : List (Nat × Instr × Nat) := [(0, .iload_n 1, 1), (1, .invokestatic 212, 3), (4, .ifCond .ne 6, 3), (7, .bipush (-2), 2), (9, .ireturn, 1), (10, .aload_n 0, 1), (11, .iload_n 1, 1), (12, .iconst 1, 1), (13, .invokevirtual 372, 3), (16, .aload_n 0, 1), (17, .iconst 0, 1), (18, .iload_n 1, 1), (19, .iconst 1, 1), (20, .invokevirtual 380, 3), (23, .ireturn, 1)]
theorem xo146_0 : x_cOk prog_1_method_47_code xc146_0 = true := x_cOk_w (by decide +kernel)
def xg146 : Nat → Option (Instr × Nat) := fun pc => x_at2 pc xc146_0
theorem xh146 : x_Good prog_1_method_47_code xg146 := by
  unfold xg146
  exact x_Good_l xo146_0
def xm146 : XM := (⟨"TwoDigits", "beside", "(I)I"⟩, prog_1_method_47_code, 2, some .int, 0, 0, 1, 0, 0, false, xg146)
def xc147_0 : List (Nat × Instr × Nat) := [(0, .iload_n 1, 1), (1, .iconst 0, 1), (2, .bipush 99, 2), (4, .invokestatic 178, 3), (7, .ifCond .eq 35, 3), (10, .iload_n 2, 1), (11, .iconst 0, 1), (12, .sipush 899, 3), (15, .invokestatic 178, 3), (18, .ifCond .eq 24, 3), (21, .iload_n 3, 1), (22, .iconst 1, 1), (23, .bipush 99, 2), (25, .invokestatic 178, 3), (28, .ifCond .eq 14, 3), (31, .iload 4, 2), (33, .iconst 0, 1), (34, .bipush 99, 2), (36, .invokestatic 178, 3), (39, .ifCond .ne 6, 3), (42, .bipush (-2), 2), (44, .ireturn, 1), (45, .aload_n 0, 1), (46, .getfield 81, 3), (49, .iload_n 1, 1), (50, .iload_n 2, 1), (51, .iload_n 3, 1), (52, .iload 4, 2), (54, .invokevirtual 387, 3), (57, .ireturn, 1)]
theorem xo147_0 : x_cOk prog_1_method_48_code xc147_0 = true := x_cOk_w (by decide +kernel)
def xg147 : Nat → Option (Instr × Nat) := fun pc => x_at2 pc xc147_0
theorem xh147 : x_Good prog_1_method_48_code xg147 := by
  unfold xg147
  exact x_Good_l xo147_0
def xm147 : XM := (⟨"TwoDigits", "stop", "(IIII)I"⟩, prog_1_method_48_code, 5, some .int, 0, 0, 4, 0, 0, false, xg147)
def xc148_0 : List (Nat × Instr × Nat) := [(0, .aload_n 0, 1), (1, .getfield 30, 3), (4, .bipush 8, 2), (6, .if_icmp .lt 6, 3), (9, .bipush (-4), 2), (11, .ireturn, 1), (12, .aload_n 0, 1), (13, .getfield 30, 3), (16, .istore 5, 2), (18, .aload_n 0, 1), (19, .getfield 9, 3), (22, .iload 5, 2), (24, .iload_n 1, 1), (25, .iastore, 1), (26, .aload_n 0, 1), (27, .getfield 15, 3), (30, .iload 5, 2), (32, .iload_n 2, 1), (33, .iastore, 1), (34, .aload_n 0, 1), (35, .getfield 18, 3), (38, .iload 5, 2), (40, .iload_n 3, 1), (41, .iastore, 1), (42, .aload_n 0, 1), (43, .getfield 21, 3), (46, .iload 5, 2), (48, .iload 4, 2), (50, .iastore, 1), (51, .iload 5, 2), (53, .istore 6, 2), (55, .iload 6, 2), (57, .ifCond .le 43, 3), (60, .aload_n 0, 1), (61, .getfield 15, 3), (64, .aload_n 0, 1), (65, .getfield 24, 3), (68, .iload 6, 2), (70, .iconst 1, 1), (71, .isub, 1), (72, .iaload, 1), (73, .iaload, 1), (74, .iload_n 2, 1), (75, .if_icmp .le 25, 3), (78, .aload_n 0, 1), (79, .getfield 24, 3), (82, .iload 6, 2), (84, .aload_n 0, 1)]
theorem xo148_0 : x_cOk prog_4_method_2_code xc148_0 = true := x_cOk_w (by decide +kernel)
def xc148_1 : List (Nat × Instr × Nat) := [(85, .getfield 24, 3), (88, .iload 6, 2), (90, .iconst 1, 1), (91, .isub, 1), (92, .iaload, 1), (93, .iastore, 1), (94, .iinc 6 (-1), 3), (97, .goto (-42), 3), (100, .aload_n 0, 1), (101, .getfield 24, 3), (104, .iload 6, 2), (106, .iload 5, 2), (108, .iastore, 1), (109, .aload_n 0, 1), (110, .dup, 1), (111, .getfield 30, 3), (114, .iconst 1, 1), (115, .iadd, 1), (116, .putfield 30, 3), (119, .iconst 1, 1), (120, .iload 5, 2), (122, .ishl, 1), (123, .istore 7, 2), (125, .iload 7, 2), (127, .iconst 2, 1), (128, .iload 5, 2), (130, .ishl, 1), (131, .if_icmp .ge 22, 3), (134, .aload_n 0, 1), (135, .getfield 27, 3), (138, .iload 7, 2), (140, .aload_n 0, 1), (141, .iload 7, 2), (143, .invokevirtual 34, 3), (146, .iastore, 1), (147, .iinc 7 1, 3), (150, .goto (-25), 3), (153, .iload 5, 2), (155, .ireturn, 1)]
theorem xo148_1 : x_cOk prog_4_method_2_code xc148_1 = true := x_cOk_w (by decide +kernel)
def xg148 : Nat → Option (Instr × Nat) := fun pc => if pc < 85 then x_at2 pc xc148_0 else x_at2 pc xc148_1
theorem xh148 : x_Good prog_4_method_2_code xg148 := by
  unfold xg148
  exact x_Good_ite (x_Good_l xo148_0) (x_Good_l xo148_1)
def xm148 : XM := (⟨"TwoDigits$Posts", "add", "(IIII)I"⟩, prog_4_method_2_code, 8, some .int, 7, 7, 4, 0, 0, false, xg148)
def xc149_0 : List (Nat × Instr × Nat) := [(0, .aload_n 0, 1), (1, .iload_n 1, 1), (2, .invokevirtual 38, 3), (5, .ifCond .eq 5, 3), (8, .iconst 1, 1), (9, .ireturn, 1), (10, .bipush 9, 2), (12, .istore_n 2, 1), (13, .iconst 1, 1), (14, .istore_n 3, 1), (15, .iload_n 3, 1), (16, .iload_n 1, 1), (17, .if_icmp .ge 42, 3), (20, .iload_n 3, 1), (21, .iload_n 1, 1), (22, .iconst (-1), 1), (23, .ixor, 1), (24, .iand, 1), (25, .ifCond .ne 28, 3), (28, .aload_n 0, 1), (29, .getfield 27, 3), (32, .iload_n 3, 1), (33, .iaload, 1), (34, .iconst 1, 1), (35, .if_icmp .ne 18, 3), (38, .iload_n 2, 1), (39, .iconst 1, 1), (40, .aload_n 0, 1), (41, .getfield 27, 3), (44, .iload_n 1, 1), (45, .iload_n 3, 1), (46, .ixor, 1), (47, .iaload, 1), (48, .iadd, 1), (49, .invokestatic 42, 3), (52, .istore_n 2, 1), (53, .iinc 3 1, 3), (56, .goto (-41), 3), (59, .iload_n 2, 1), (60, .ireturn, 1)]
theorem xo149_0 : x_cOk prog_4_method_3_code xc149_0 = true := x_cOk_w (by decide +kernel)
def xg149 : Nat → Option (Instr × Nat) := fun pc => x_at2 pc xc149_0
theorem xh149 : x_Good prog_4_method_3_code xg149 := by
  unfold xg149
  exact x_Good_l xo149_0
def xm149 : XM := (⟨"TwoDigits$Posts", "fewestFor", "(I)I"⟩, prog_4_method_3_code, 4, some .int, 7, 7, 1, 0, 0, false, xg149)
def xc150_0 : List (Nat × Instr × Nat) := [(0, .iconst 0, 1), (1, .istore_n 2, 1), (2, .iconst 0, 1), (3, .istore_n 3, 1), (4, .iconst 0, 1), (5, .istore 4, 2), (7, .iload 4, 2), (9, .aload_n 0, 1), (10, .getfield 30, 3), (13, .if_icmp .ge 77, 3), (16, .aload_n 0, 1), (17, .getfield 24, 3), (20, .iload 4, 2), (22, .iaload, 1), (23, .istore 5, 2), (25, .iload_n 1, 1), (26, .iload 5, 2), (28, .invokestatic 48, 3), (31, .ifCond .eq 53, 3), (34, .iload_n 3, 1), (35, .aload_n 0, 1), (36, .getfield 9, 3), (39, .iload 5, 2), (41, .iaload, 1), (42, .iload_n 2, 1), (43, .isub, 1), (44, .invokestatic 52, 3), (47, .iadd, 1), (48, .aload_n 0, 1), (49, .getfield 15, 3), (52, .iload 5, 2), (54, .iaload, 1), (55, .if_icmp .le 5, 3), (58, .iconst 0, 1), (59, .ireturn, 1), (60, .aload_n 0, 1), (61, .getfield 9, 3), (64, .iload 5, 2), (66, .iaload, 1), (67, .istore_n 2, 1), (68, .aload_n 0, 1), (69, .getfield 15, 3), (72, .iload 5, 2), (74, .iaload, 1), (75, .aload_n 0, 1), (76, .getfield 18, 3), (79, .iload 5, 2), (81, .iaload, 1)]
theorem xo150_0 : x_cOk prog_4_method_4_code xc150_0 = true := x_cOk_w (by decide +kernel)
def xc150_1 : List (Nat × Instr × Nat) := [(82, .iadd, 1), (83, .istore_n 3, 1), (84, .iinc 4 1, 3), (87, .goto (-80), 3), (90, .iconst 1, 1), (91, .ireturn, 1)]
theorem xo150_1 : x_cOk prog_4_method_4_code xc150_1 = true := x_cOk_w (by decide +kernel)
def xg150 : Nat → Option (Instr × Nat) := fun pc => if pc < 82 then x_at2 pc xc150_0 else x_at2 pc xc150_1
theorem xh150 : x_Good prog_4_method_4_code xg150 := by
  unfold xg150
  exact x_Good_ite (x_Good_l xo150_0) (x_Good_l xo150_1)
def xm150 : XM := (⟨"TwoDigits$Posts", "canOneMeet", "(I)Z"⟩, prog_4_method_4_code, 6, some .boolean, 7, 7, 1, 0, 0, false, xg150)
def xc151_0 : List (Nat × Instr × Nat) := [(0, .iload_n 0, 1), (1, .ifCond .ge 8, 3), (4, .iload_n 0, 1), (5, .ineg, 1), (6, .goto 4, 3), (9, .iload_n 0, 1), (10, .ireturn, 1)]
theorem xo151_0 : x_cOk prog_16_method_59_code xc151_0 = true := x_cOk_w (by decide +kernel)
def xg151 : Nat → Option (Instr × Nat) := fun pc => x_at2 pc xc151_0
theorem xh151 : x_Good prog_16_method_59_code xg151 := by
  unfold xg151
  exact x_Good_l xo151_0
def xm151 : XM := (⟨"java/lang/Math", "abs", "(I)I"⟩, prog_16_method_59_code, 1, some .int, 14, 114, 1, 0, 0, false, xg151)
def xc152_0 : List (Nat × Instr × Nat) := [(0, .iload_n 2, 1), (1, .iconst 0, 1), (2, .iconst 4, 1), (3, .invokestatic 178, 3), (6, .ifCond .ne 5, 3), (9, .iconst (-1), 1), (10, .ireturn, 1), (11, .iload_n 1, 1), (12, .iconst 1, 1), (13, .iconst 3, 1), (14, .invokestatic 178, 3), (17, .ifCond .ne 6, 3), (20, .bipush (-2), 2), (22, .ireturn, 1), (23, .iload_n 2, 1), (24, .iconst 2, 1), (25, .isub, 1), (26, .iload_n 1, 1), (27, .if_icmp .lt 5, 3), (30, .iconst (-1), 1), (31, .ireturn, 1), (32, .aload_n 0, 1), (33, .getfield 81, 3), (36, .iload_n 1, 1), (37, .invokevirtual 390, 3), (40, .istore_n 3, 1), (41, .iload_n 2, 1), (42, .lookupswitch 37 #[(0, 26), (1, 35)], 26), (68, .aload_n 0, 1), (69, .getfield 81, 3), (72, .iload_n 3, 1), (73, .invokevirtual 393, 3), (76, .ireturn, 1), (77, .iload_n 3, 1), (78, .ireturn, 1), (79, .aload_n 0, 1), (80, .getfield 81, 3), (83, .iload_n 3, 1), (84, .iload_n 1, 1), (85, .iload_n 2, 1), (86, .iconst 2, 1), (87, .isub, 1), (88, .invokevirtual 396, 3), (91, .ireturn, 1)]
theorem xo152_0 : x_cOk prog_1_method_49_code xc152_0 = true := x_cOk_w (by decide +kernel)
def xg152 : Nat → Option (Instr × Nat) := fun pc => x_at2 pc xc152_0
theorem xh152 : x_Good prog_1_method_49_code xg152 := by
  unfold xg152
  exact x_Good_l xo152_0
def xm152 : XM := (⟨"TwoDigits", "posts", "(II)I"⟩, prog_1_method_49_code, 4, some .int, 0, 0, 2, 0, 0, false, xg152)
def xc153_0 : List (Nat × Instr × Nat) := [(0, .iconst 0, 1), (1, .istore_n 2, 1), (2, .iconst 1, 1), (3, .istore_n 3, 1), (4, .iload_n 3, 1), (5, .iconst 1, 1), (6, .aload_n 0, 1), (7, .getfield 30, 3), (10, .ishl, 1), (11, .if_icmp .ge 34, 3), (14, .aload_n 0, 1), (15, .getfield 27, 3), (18, .iload_n 3, 1), (19, .iaload, 1), (20, .iload_n 1, 1), (21, .if_icmp .gt 18, 3), (24, .aload_n 0, 1), (25, .iload_n 3, 1), (26, .invokevirtual 55, 3), (29, .aload_n 0, 1), (30, .iload_n 2, 1), (31, .invokevirtual 55, 3), (34, .if_icmp .le 5, 3), (37, .iload_n 3, 1), (38, .istore_n 2, 1), (39, .iinc 3 1, 3), (42, .goto (-38), 3), (45, .iload_n 2, 1), (46, .ireturn, 1)]
theorem xo153_0 : x_cOk prog_4_method_5_code xc153_0 = true := x_cOk_w (by decide +kernel)
def xg153 : Nat → Option (Instr × Nat) := fun pc => x_at2 pc xc153_0
theorem xh153 : x_Good prog_4_method_5_code xg153 := by
  unfold xg153
  exact x_Good_l xo153_0
def xm153 : XM := (⟨"TwoDigits$Posts", "metBy", "(I)I"⟩, prog_4_method_5_code, 4, some .int, 7, 7, 1, 0, 0, false, xg153)
def xc154_0 : List (Nat × Instr × Nat) := [(0, .iconst 0, 1), (1, .istore_n 2, 1), (2, .iconst 0, 1), (3, .istore_n 3, 1), (4, .iload_n 3, 1), (5, .aload_n 0, 1), (6, .getfield 30, 3), (9, .if_icmp .ge 30, 3), (12, .iload_n 2, 1), (13, .iload_n 1, 1), (14, .iload_n 3, 1), (15, .invokestatic 48, 3), (18, .ifCond .eq 12, 3), (21, .aload_n 0, 1), (22, .getfield 21, 3), (25, .iload_n 3, 1), (26, .iaload, 1), (27, .goto 4, 3), (30, .iconst 0, 1), (31, .iadd, 1), (32, .istore_n 2, 1), (33, .iinc 3 1, 3), (36, .goto (-32), 3), (39, .iload_n 2, 1), (40, .ireturn, 1)]
theorem xo154_0 : x_cOk prog_4_method_6_code xc154_0 = true := x_cOk_w (by decide +kernel)
def xg154 : Nat → Option (Instr × Nat) := fun pc => x_at2 pc xc154_0
theorem xh154 : x_Good prog_4_method_6_code xg154 := by
  unfold xg154
  exact x_Good_l xo154_0
def xm154 : XM := (⟨"TwoDigits$Posts", "weightOf", "(I)I"⟩, prog_4_method_6_code, 4, some .int, 7, 7, 1, 0, 0, false, xg154)
def xc155_0 : List (Nat × Instr × Nat) := [(0, .iload_n 1, 1), (1, .istore 4, 2), (3, .iconst 0, 1), (4, .istore 5, 2), (6, .iconst 0, 1), (7, .istore 6, 2), (9, .iload 6, 2), (11, .iload_n 3, 1), (12, .if_icmp .gt 30, 3), (15, .aload_n 0, 1), (16, .iload 4, 2), (18, .iload_n 2, 1), (19, .iconst 1, 1), (20, .isub, 1), (21, .iload 6, 2), (23, .isub, 1), (24, .invokevirtual 58, 3), (27, .istore 5, 2), (29, .iload 4, 2), (31, .iload 5, 2), (33, .ixor, 1), (34, .istore 4, 2), (36, .iinc 6 1, 3), (39, .goto (-30), 3), (42, .iload 5, 2), (44, .ireturn, 1)]
theorem xo155_0 : x_cOk prog_4_method_7_code xc155_0 = true := x_cOk_w (by decide +kernel)
def xg155 : Nat → Option (Instr × Nat) := fun pc => x_at2 pc xc155_0
theorem xh155 : x_Good prog_4_method_7_code xg155 := by
  unfold xg155
  exact x_Good_l xo155_0
def xm155 : XM := (⟨"TwoDigits$Posts", "metByHand", "(III)I"⟩, prog_4_method_7_code, 7, some .int, 7, 7, 3, 0, 0, false, xg155)
def xc156_0 : List (Nat × Instr × Nat) := [(0, .iload_n 1, 1), (1, .istore_n 3, 1), (2, .iload_n 3, 1), (3, .ifCond .le 41, 3), (6, .iload_n 3, 1), (7, .iload_n 1, 1), (8, .iconst (-1), 1), (9, .ixor, 1), (10, .iand, 1), (11, .ifCond .ne 27, 3), (14, .aload_n 0, 1), (15, .getfield 27, 3), (18, .iload_n 3, 1), (19, .iaload, 1), (20, .iconst 1, 1), (21, .if_icmp .ne 17, 3), (24, .aload_n 0, 1), (25, .getfield 27, 3), (28, .iload_n 1, 1), (29, .iload_n 3, 1), (30, .ixor, 1), (31, .iaload, 1), (32, .iload_n 2, 1), (33, .if_icmp .gt 5, 3), (36, .iload_n 3, 1), (37, .ireturn, 1), (38, .iinc 3 (-1), 3), (41, .goto (-39), 3), (44, .iconst 0, 1), (45, .ireturn, 1)]
theorem xo156_0 : x_cOk prog_4_method_8_code xc156_0 = true := x_cOk_w (by decide +kernel)
def xg156 : Nat → Option (Instr × Nat) := fun pc => x_at2 pc xc156_0
theorem xh156 : x_Good prog_4_method_8_code xg156 := by
  unfold xg156
  exact x_Good_l xo156_0
def xm156 : XM := (⟨"TwoDigits$Posts", "greatestPart", "(II)I"⟩, prog_4_method_8_code, 4, some .int, 7, 7, 2, 0, 0, false, xg156)
def xc157_0 : List (Nat × Instr × Nat) := [(0, .iload_n 1, 1), (1, .iconst 0, 1), (2, .bipush 6, 2), (4, .invokestatic 178, 3), (7, .ifCond .eq 13, 3), (10, .iload_n 2, 1), (11, .iconst 0, 1), (12, .bipush 99, 2), (14, .invokestatic 178, 3), (17, .ifCond .ne 6, 3), (20, .bipush (-2), 2), (22, .ireturn, 1), (23, .aload_n 0, 1), (24, .getfield 88, 3), (27, .iload_n 1, 1), (28, .iload_n 2, 1), (29, .invokevirtual 399, 3), (32, .ireturn, 1)]
theorem xo157_0 : x_cOk prog_1_method_50_code xc157_0 = true := x_cOk_w (by decide +kernel)
def xg157 : Nat → Option (Instr × Nat) := fun pc => x_at2 pc xc157_0
theorem xh157 : x_Good prog_1_method_50_code xg157 := by
  unfold xg157
  exact x_Good_l xo157_0
def xm157 : XM := (⟨"TwoDigits", "thing", "(II)I"⟩, prog_1_method_50_code, 3, some .int, 0, 0, 2, 0, 0, false, xg157)
def xc158_0 : List (Nat × Instr × Nat) := [(0, .aload_n 0, 1), (1, .getfield 21, 3), (4, .bipush 40, 2), (6, .if_icmp .lt 6, 3), (9, .bipush (-4), 2), (11, .ireturn, 1), (12, .aload_n 0, 1), (13, .getfield 11, 3), (16, .aload_n 0, 1), (17, .getfield 21, 3), (20, .iload_n 1, 1), (21, .iastore, 1), (22, .aload_n 0, 1), (23, .getfield 15, 3), (26, .aload_n 0, 1), (27, .getfield 21, 3), (30, .iload_n 2, 1), (31, .iastore, 1), (32, .aload_n 0, 1), (33, .dup, 1), (34, .getfield 21, 3), (37, .iconst 1, 1), (38, .iadd, 1), (39, .putfield 21, 3), (42, .aload_n 0, 1), (43, .getfield 21, 3), (46, .iconst 1, 1), (47, .isub, 1), (48, .ireturn, 1)]
theorem xo158_0 : x_cOk prog_12_method_2_code xc158_0 = true := x_cOk_w (by decide +kernel)
def xg158 : Nat → Option (Instr × Nat) := fun pc => x_at2 pc xc158_0
theorem xh158 : x_Good prog_12_method_2_code xg158 := by
  unfold xg158
  exact x_Good_l xo158_0
def xm158 : XM := (⟨"TwoDigits$Things", "add", "(II)I"⟩, prog_12_method_2_code, 3, some .int, 8, 8, 2, 0, 0, false, xg158)
def xc159_0 : List (Nat × Instr × Nat) := [(0, .aload_n 0, 1), (1, .getfield 88, 3), (4, .iload_n 1, 1), (5, .iload_n 2, 1), (6, .iload_n 3, 1), (7, .invokevirtual 401, 3), (10, .ireturn, 1)]
theorem xo159_0 : x_cOk prog_1_method_51_code xc159_0 = true := x_cOk_w (by decide +kernel)
def xg159 : Nat → Option (Instr × Nat) := fun pc => x_at2 pc xc159_0
theorem xh159 : x_Good prog_1_method_51_code xg159 := by
  unfold xg159
  exact x_Good_l xo159_0
def xm159 : XM := (⟨"TwoDigits", "act", "(III)I"⟩, prog_1_method_51_code, 4, some .int, 0, 0, 3, 0, 0, false, xg159)
def xc160_0 : List (Nat × Instr × Nat) := [(0, .aload_n 0, 1), (1, .iconst 0, 1), (2, .putfield 29, 3), (5, .aload_n 0, 1), (6, .iload_n 1, 1), (7, .invokevirtual 38, 3), (10, .ifCond .ne 5, 3), (13, .iconst 0, 1), (14, .ireturn, 1), (15, .aload_n 0, 1), (16, .aload_n 0, 1), (17, .getfield 11, 3), (20, .iload_n 1, 1), (21, .iaload, 1), (22, .putfield 42, 3), (25, .aload_n 0, 1), (26, .iload_n 1, 1), (27, .putfield 45, 3), (30, .aload_n 0, 1), (31, .aload_n 0, 1), (32, .getfield 15, 3), (35, .iload_n 1, 1), (36, .iaload, 1), (37, .putfield 48, 3), (40, .iload_n 2, 1), (41, .tableswitch 57 0 2 #[27, 37, 47], 27), (68, .aload_n 0, 1), (69, .aload_n 0, 1), (70, .getfield 42, 3), (73, .iload_n 3, 1), (74, .invokevirtual 51, 3), (77, .ireturn, 1), (78, .aload_n 0, 1), (79, .aload_n 0, 1), (80, .getfield 42, 3), (83, .iload_n 3, 1), (84, .invokevirtual 54, 3), (87, .ireturn, 1), (88, .aload_n 0, 1), (89, .aload_n 0, 1), (90, .getfield 42, 3), (93, .iload_n 3, 1), (94, .invokevirtual 57, 3), (97, .ireturn, 1), (98, .iconst 0, 1), (99, .ireturn, 1)]
theorem xo160_0 : x_cOk prog_12_method_7_code xc160_0 = true := x_cOk_w (by decide +kernel)
def xg160 : Nat → Option (Instr × Nat) := fun pc => x_at2 pc xc160_0
theorem xh160 : x_Good prog_12_method_7_code xg160 := by
  unfold xg160
  exact x_Good_l xo160_0
def xm160 : XM := (⟨"TwoDigits$Things", "perform", "(III)I"⟩, prog_12_method_7_code, 4, some .int, 8, 8, 3, 0, 0, false, xg160)
def xc161_0 : List (Nat × Instr × Nat) := [(0, .iload_n 1, 1), (1, .ifCond .lt 15, 3), (4, .iload_n 1, 1), (5, .aload_n 0, 1), (6, .getfield 21, 3), (9, .if_icmp .ge 7, 3), (12, .iconst 1, 1), (13, .goto 4, 3), (16, .iconst 0, 1), (17, .ireturn, 1)]
theorem xo161_0 : x_cOk prog_12_method_3_code xc161_0 = true := x_cOk_w (by decide +kernel)
def xg161 : Nat → Option (Instr × Nat) := fun pc => x_at2 pc xc161_0
theorem xh161 : x_Good prog_12_method_3_code xg161 := by
  unfold xg161
  exact x_Good_l xo161_0
def xm161 : XM := (⟨"TwoDigits$Things", "has", "(I)Z"⟩, prog_12_method_3_code, 2, some .boolean, 8, 8, 1, 0, 0, false, xg161)
def xc162_0 : List (Nat × Instr × Nat) := [(0, .iload_n 1, 1), (1, .lookupswitch 59 #[(1, 43), (5, 27)], 27), (28, .aload_n 0, 1), (29, .bipush 60, 2), (31, .invokevirtual 60, 3), (34, .aload_n 0, 1), (35, .iconst 1, 1), (36, .iload_n 2, 1), (37, .invokevirtual 51, 3), (40, .bipush 19, 2), (42, .isub, 1), (43, .ireturn, 1), (44, .aload_n 0, 1), (45, .bipush 20, 2), (47, .invokevirtual 60, 3), (50, .aload_n 0, 1), (51, .iconst 0, 1), (52, .iload_n 2, 1), (53, .invokevirtual 51, 3), (56, .bipush 10, 2), (58, .imul, 1), (59, .ireturn, 1), (60, .aload_n 0, 1), (61, .bipush 10, 2), (63, .invokevirtual 60, 3), (66, .iload_n 2, 1), (67, .aload_n 0, 1), (68, .getfield 48, 3), (71, .iadd, 1), (72, .ireturn, 1)]
theorem xo162_0 : x_cOk prog_12_method_9_code xc162_0 = true := x_cOk_w (by decide +kernel)
def xg162 : Nat → Option (Instr × Nat) := fun pc => x_at2 pc xc162_0
theorem xh162 : x_Good prog_12_method_9_code xg162 := by
  unfold xg162
  exact x_Good_l xo162_0
def xm162 : XM := (⟨"TwoDigits$Things", "reading", "(II)I"⟩, prog_12_method_9_code, 3, some .int, 8, 8, 2, 0, 0, false, xg162)
def xc163_0 : List (Nat × Instr × Nat) := [(0, .aload_n 0, 1), (1, .getfield 29, 3), (4, .bipush 20, 2), (6, .if_icmp .ge 13, 3), (9, .aload_n 0, 1), (10, .getfield 18, 3), (13, .aload_n 0, 1), (14, .getfield 29, 3), (17, .iload_n 1, 1), (18, .iastore, 1), (19, .aload_n 0, 1), (20, .dup, 1), (21, .getfield 29, 3), (24, .iconst 1, 1), (25, .iadd, 1), (26, .putfield 29, 3), (29, .return_, 1)]
theorem xo163_0 : x_cOk prog_12_method_8_code xc163_0 = true := x_cOk_w (by decide +kernel)
def xg163 : Nat → Option (Instr × Nat) := fun pc => x_at2 pc xc163_0
theorem xh163 : x_Good prog_12_method_8_code xg163 := by
  unfold xg163
  exact x_Good_l xo163_0
def xm163 : XM := (⟨"TwoDigits$Things", "starts", "(I)V"⟩, prog_12_method_8_code, 2, none, 8, 8, 1, 0, 0, false, xg163)
def xc164_0 : List (Nat × Instr × Nat) := [(0, .iload_n 1, 1), (1, .tableswitch 86 2 6 #[50, 86, 68, 86, 35], 35), (36, .aload_n 0, 1), (37, .bipush 70, 2), (39, .invokevirtual 60, 3), (42, .aload_n 0, 1), (43, .iconst 2, 1), (44, .iload_n 2, 1), (45, .invokevirtual 54, 3), (48, .iconst 3, 1), (49, .ixor, 1), (50, .ireturn, 1), (51, .aload_n 0, 1), (52, .bipush 30, 2), (54, .invokevirtual 60, 3), (57, .aload_n 0, 1), (58, .iconst 0, 1), (59, .iload_n 2, 1), (60, .invokevirtual 54, 3), (63, .aload_n 0, 1), (64, .getfield 45, 3), (67, .iadd, 1), (68, .ireturn, 1), (69, .aload_n 0, 1), (70, .bipush 50, 2), (72, .invokevirtual 60, 3), (75, .aload_n 0, 1), (76, .iconst 0, 1), (77, .iload_n 2, 1), (78, .invokevirtual 54, 3), (81, .aload_n 0, 1), (82, .getfield 48, 3), (85, .isub, 1), (86, .ireturn, 1), (87, .aload_n 0, 1), (88, .bipush 11, 2), (90, .invokevirtual 60, 3), (93, .aload_n 0, 1), (94, .aload_n 0, 1), (95, .getfield 42, 3), (98, .iload_n 2, 1), (99, .invokevirtual 51, 3), (102, .iconst 2, 1), (103, .imul, 1), (104, .ireturn, 1)]
theorem xo164_0 : x_cOk prog_12_method_10_code xc164_0 = true := x_cOk_w (by decide +kernel)
def xg164 : Nat → Option (Instr × Nat) := fun pc => x_at2 pc xc164_0
theorem xh164 : x_Good prog_12_method_10_code xg164 := by
  unfold xg164
  exact x_Good_l xo164_0
def xm164 : XM := (⟨"TwoDigits$Things", "feeding", "(II)I"⟩, prog_12_method_10_code, 3, some .int, 8, 8, 2, 0, 0, false, xg164)
def xc165_0 : List (Nat × Instr × Nat) := [(0, .iload_n 1, 1), (1, .lookupswitch 57 #[(3, 42), (5, 27)], 27), (28, .aload_n 0, 1), (29, .bipush 61, 2), (31, .invokevirtual 60, 3), (34, .aload_n 0, 1), (35, .iconst 1, 1), (36, .iload_n 2, 1), (37, .invokevirtual 57, 3), (40, .iconst 2, 1), (41, .iadd, 1), (42, .ireturn, 1), (43, .aload_n 0, 1), (44, .bipush 40, 2), (46, .invokevirtual 60, 3), (49, .aload_n 0, 1), (50, .iconst 0, 1), (51, .iload_n 2, 1), (52, .iconst 1, 1), (53, .isub, 1), (54, .invokevirtual 57, 3), (57, .ireturn, 1), (58, .aload_n 0, 1), (59, .bipush 12, 2), (61, .invokevirtual 60, 3), (64, .aload_n 0, 1), (65, .aload_n 0, 1), (66, .getfield 42, 3), (69, .iload_n 2, 1), (70, .invokevirtual 54, 3), (73, .aload_n 0, 1), (74, .aload_n 0, 1), (75, .getfield 42, 3), (78, .iload_n 2, 1), (79, .aload_n 0, 1), (80, .getfield 45, 3), (83, .iadd, 1), (84, .invokevirtual 51, 3), (87, .ixor, 1), (88, .ireturn, 1)]
theorem xo165_0 : x_cOk prog_12_method_11_code xc165_0 = true := x_cOk_w (by decide +kernel)
def xg165 : Nat → Option (Instr × Nat) := fun pc => x_at2 pc xc165_0
theorem xh165 : x_Good prog_12_method_11_code xg165 := by
  unfold xg165
  exact x_Good_l xo165_0
def xm165 : XM := (⟨"TwoDigits$Things", "failing", "(II)I"⟩, prog_12_method_11_code, 3, some .int, 8, 8, 2, 0, 0, false, xg165)
def xc166_0 : List (Nat × Instr × Nat) := [(0, .aload_n 0, 1), (1, .getfield 88, 3), (4, .iload_n 1, 1), (5, .invokevirtual 404, 3), (8, .ireturn, 1)]
theorem xo166_0 : x_cOk prog_1_method_52_code xc166_0 = true := x_cOk_w (by decide +kernel)
def xg166 : Nat → Option (Instr × Nat) := fun pc => x_at2 pc xc166_0
theorem xh166 : x_Good prog_1_method_52_code xg166 := by
  unfold xg166
  exact x_Good_l xo166_0
def xm166 : XM := (⟨"TwoDigits", "trace", "(I)I"⟩, prog_1_method_52_code, 2, some .int, 0, 0, 1, 0, 0, false, xg166)
def xc167_0 : List (Nat × Instr × Nat) := [(0, .iload_n 1, 1), (1, .ifCond .lt 25, 3), (4, .iload_n 1, 1), (5, .aload_n 0, 1), (6, .getfield 29, 3), (9, .bipush 20, 2), (11, .invokestatic 32, 3), (14, .if_icmp .ge 12, 3), (17, .aload_n 0, 1), (18, .getfield 18, 3), (21, .iload_n 1, 1), (22, .iaload, 1), (23, .goto 4, 3), (26, .iconst (-1), 1), (27, .ireturn, 1)]
theorem xo167_0 : x_cOk prog_12_method_6_code xc167_0 = true := x_cOk_w (by decide +kernel)
def xg167 : Nat → Option (Instr × Nat) := fun pc => x_at2 pc xc167_0
theorem xh167 : x_Good prog_12_method_6_code xg167 := by
  unfold xg167
  exact x_Good_l xo167_0
def xm167 : XM := (⟨"TwoDigits$Things", "bodyAt", "(I)I"⟩, prog_12_method_6_code, 2, some .int, 8, 8, 1, 0, 0, false, xg167)
def xc168_0 : List (Nat × Instr × Nat) := [(0, .iload_n 2, 1), (1, .iconst 0, 1), (2, .bipush 6, 2), (4, .invokestatic 178, 3), (7, .ifCond .ne 6, 3), (10, .bipush (-2), 2), (12, .ireturn, 1), (13, .aload_n 0, 1), (14, .getfield 88, 3), (17, .iload_n 1, 1), (18, .invokevirtual 407, 3), (21, .ifCond .ne 6, 3), (24, .bipush (-11), 2), (26, .ireturn, 1), (27, .aload_n 0, 1), (28, .getfield 88, 3), (31, .getfield 408, 3), (34, .iload_n 1, 1), (35, .iaload, 1), (36, .istore_n 3, 1), (37, .iload_n 3, 1), (38, .iload_n 2, 1), (39, .invokestatic 411, 3), (42, .ifCond .eq 7, 3), (45, .iload_n 3, 1), (46, .goto 5, 3), (49, .bipush (-13), 2), (51, .ireturn, 1)]
theorem xo168_0 : x_cOk prog_1_method_53_code xc168_0 = true := x_cOk_w (by decide +kernel)
def xg168 : Nat → Option (Instr × Nat) := fun pc => x_at2 pc xc168_0
theorem xh168 : x_Good prog_1_method_53_code xg168 := by
  unfold xg168
  exact x_Good_l xo168_0
def xm168 : XM := (⟨"TwoDigits", "taken", "(II)I"⟩, prog_1_method_53_code, 4, some .int, 0, 0, 2, 0, 0, false, xg168)
def xc169_0 : List (Nat × Instr × Nat) := [(0, .iload_n 0, 1), (1, .istore_n 2, 1), (2, .iconst 0, 1), (3, .istore_n 3, 1), (4, .iload_n 3, 1), (5, .iconst 3, 1), (6, .if_icmp .ge 19, 3), (9, .iload_n 2, 1), (10, .iload_n 1, 1), (11, .if_icmp .eq 14, 3), (14, .iload_n 2, 1), (15, .invokestatic 25, 3), (18, .istore_n 2, 1), (19, .iinc 3 1, 3), (22, .goto (-18), 3), (25, .iload_n 2, 1), (26, .iload_n 1, 1), (27, .if_icmp .ne 7, 3), (30, .iconst 1, 1), (31, .goto 4, 3), (34, .iconst 0, 1), (35, .ireturn, 1)]
theorem xo169_0 : x_cOk prog_12_method_5_code xc169_0 = true := x_cOk_w (by decide +kernel)
def xg169 : Nat → Option (Instr × Nat) := fun pc => x_at2 pc xc169_0
theorem xh169 : x_Good prog_12_method_5_code xg169 := by
  unfold xg169
  exact x_Good_l xo169_0
def xm169 : XM := (⟨"TwoDigits$Things", "isUnder", "(II)Z"⟩, prog_12_method_5_code, 4, some .boolean, 8, 8, 2, 0, 0, false, xg169)
def xc170_0 : List (Nat × Instr × Nat) := [(0, .iload_n 0, 1), (1, .lookupswitch 41 #[(0, 35), (5, 37), (6, 39)], 35), (36, .iconst (-1), 1), (37, .ireturn, 1), (38, .iconst 1, 1), (39, .ireturn, 1), (40, .iconst 2, 1), (41, .ireturn, 1), (42, .iconst 0, 1), (43, .ireturn, 1)]
theorem xo170_0 : x_cOk prog_12_method_4_code xc170_0 = true := x_cOk_w (by decide +kernel)
def xg170 : Nat → Option (Instr × Nat) := fun pc => x_at2 pc xc170_0
theorem xh170 : x_Good prog_12_method_4_code xg170 := by
  unfold xg170
  exact x_Good_l xo170_0
def xm170 : XM := (⟨"TwoDigits$Things", "above", "(I)I"⟩, prog_12_method_4_code, 1, some .int, 8, 8, 1, 0, 0, false, xg170)
def xc171_0 : List (Nat × Instr × Nat) := [(0, .iload_n 1, 1), (1, .tableswitch 167 0 13 #[71, 76, 81, 89, 95, 101, 106, 114, 122, 130, 138, 146, 151, 159], 71), (72, .aload_n 0, 1), (73, .getfield 107, 3), (76, .ireturn, 1), (77, .aload_n 0, 1), (78, .getfield 328, 3), (81, .ireturn, 1), (82, .aload_n 0, 1), (83, .getfield 88, 3), (86, .getfield 414, 3), (89, .ireturn, 1), (90, .aload_n 0, 1), (91, .iconst 4, 1), (92, .invokevirtual 415, 3), (95, .ireturn, 1), (96, .aload_n 0, 1), (97, .iconst 5, 1), (98, .invokevirtual 415, 3), (101, .ireturn, 1), (102, .aload_n 0, 1), (103, .invokevirtual 418, 3), (106, .ireturn, 1), (107, .aload_n 0, 1), (108, .getfield 59, 3), (111, .getfield 421, 3), (114, .ireturn, 1), (115, .aload_n 0, 1), (116, .getfield 69, 3), (119, .getfield 354, 3), (122, .ireturn, 1), (123, .aload_n 0, 1), (124, .getfield 72, 3), (127, .getfield 354, 3), (130, .ireturn, 1), (131, .aload_n 0, 1), (132, .getfield 75, 3), (135, .getfield 354, 3), (138, .ireturn, 1), (139, .aload_n 0, 1), (140, .getfield 10, 3), (143, .getfield 103, 3), (146, .ireturn, 1), (147, .aload_n 0, 1), (148, .getfield 424, 3), (151, .ireturn, 1), (152, .aload_n 0, 1), (153, .getfield 88, 3)]
theorem xo171_0 : x_cOk prog_1_method_54_code xc171_0 = true := x_cOk_w (by decide +kernel)
def xc171_1 : List (Nat × Instr × Nat) := [(156, .getfield 427, 3), (159, .ireturn, 1), (160, .aload_n 0, 1), (161, .getfield 81, 3), (164, .getfield 430, 3), (167, .ireturn, 1), (168, .bipush (-2), 2), (170, .ireturn, 1)]
theorem xo171_1 : x_cOk prog_1_method_54_code xc171_1 = true := x_cOk_w (by decide +kernel)
def xg171 : Nat → Option (Instr × Nat) := fun pc => if pc < 156 then x_at2 pc xc171_0 else x_at2 pc xc171_1
theorem xh171 : x_Good prog_1_method_54_code xg171 := by
  unfold xg171
  exact x_Good_ite (x_Good_l xo171_0) (x_Good_l xo171_1)
def xm171 : XM := (⟨"TwoDigits", "count", "(I)I"⟩, prog_1_method_54_code, 2, some .int, 0, 0, 1, 0, 0, false, xg171)
def xc172_0 : List (Nat × Instr × Nat) := [(0, .iconst 0, 1), (1, .istore_n 2, 1), (2, .iconst 0, 1), (3, .istore_n 3, 1), (4, .iload_n 3, 1), (5, .aload_n 0, 1), (6, .getfield 107, 3), (9, .if_icmp .ge 25, 3), (12, .aload_n 0, 1), (13, .getfield 25, 3), (16, .iload_n 3, 1), (17, .aaload, 1), (18, .getfield 121, 3), (21, .iload_n 1, 1), (22, .if_icmp .ne 6, 3), (25, .iinc 2 1, 3), (28, .iinc 3 1, 3), (31, .goto (-27), 3), (34, .iload_n 2, 1), (35, .ireturn, 1)]
theorem xo172_0 : x_cOk prog_1_method_55_code xc172_0 = true := x_cOk_w (by decide +kernel)
def xg172 : Nat → Option (Instr × Nat) := fun pc => x_at2 pc xc172_0
theorem xh172 : x_Good prog_1_method_55_code xg172 := by
  unfold xg172
  exact x_Good_l xo172_0
def xm172 : XM := (⟨"TwoDigits", "howManyIn", "(I)I"⟩, prog_1_method_55_code, 4, some .int, 0, 0, 1, 0, 0, false, xg172)
def xc173_0 : List (Nat × Instr × Nat) := [(0, .iconst 0, 1), (1, .istore_n 1, 1), (2, .iconst 0, 1), (3, .istore_n 2, 1), (4, .iload_n 2, 1), (5, .aload_n 0, 1), (6, .getfield 107, 3), (9, .if_icmp .ge 24, 3), (12, .aload_n 0, 1), (13, .getfield 25, 3), (16, .iload_n 2, 1), (17, .aaload, 1), (18, .getfield 159, 3), (21, .ifCond .eq 6, 3), (24, .iinc 1 1, 3), (27, .iinc 2 1, 3), (30, .goto (-26), 3), (33, .iload_n 1, 1), (34, .ireturn, 1)]
theorem xo173_0 : x_cOk prog_1_method_56_code xc173_0 = true := x_cOk_w (by decide +kernel)
def xg173 : Nat → Option (Instr × Nat) := fun pc => x_at2 pc xc173_0
theorem xh173 : x_Good prog_1_method_56_code xg173 := by
  unfold xg173
  exact x_Good_l xo173_0
def xm173 : XM := (⟨"TwoDigits", "howManyWrong", "()I"⟩, prog_1_method_56_code, 3, some .int, 0, 0, 0, 0, 0, false, xg173)
def xc174_0 : List (Nat × Instr × Nat) := [(0, .aload_n 0, 1), (1, .iload_n 1, 1), (2, .invokevirtual 182, 3), (5, .astore 4, 2), (7, .aload 4, 2), (9, .ifnull 12, 3), (12, .iload_n 2, 1), (13, .iconst (-1), 1), (14, .iconst 2, 1), (15, .invokestatic 178, 3), (18, .ifCond .ne 6, 3), (21, .bipush (-2), 2), (23, .ireturn, 1), (24, .iload_n 2, 1), (25, .iconst (-1), 1), (26, .if_icmp .ne 11, 3), (29, .aload 4, 2), (31, .iconst (-1), 1), (32, .putfield 206, 3), (35, .iconst 1, 1), (36, .ireturn, 1), (37, .iload_n 3, 1), (38, .bipush 40, 2), (40, .if_icmp .le 6, 3), (43, .bipush (-2), 2), (45, .ireturn, 1), (46, .iload_n 3, 1), (47, .ifCond .ge 6, 3), (50, .bipush (-14), 2), (52, .ireturn, 1), (53, .aload 4, 2), (55, .iload_n 2, 1), (56, .iload_n 3, 1), (57, .invokevirtual 431, 3), (60, .iconst 1, 1), (61, .ireturn, 1)]
theorem xo174_0 : x_cOk prog_1_method_57_code xc174_0 = true := x_cOk_w (by decide +kernel)
def xg174 : Nat → Option (Instr × Nat) := fun pc => x_at2 pc xc174_0
theorem xh174 : x_Good prog_1_method_57_code xg174 := by
  unfold xg174
  exact x_Good_l xo174_0
def xm174 : XM := (⟨"TwoDigits", "sheet", "(III)I"⟩, prog_1_method_57_code, 5, some .int, 0, 0, 3, 0, 0, false, xg174)
def xc175_0 : List (Nat × Instr × Nat) := [(0, .aload_n 0, 1), (1, .iload_n 1, 1), (2, .putfield 15, 3), (5, .aload_n 0, 1), (6, .iload_n 2, 1), (7, .putfield 19, 3), (10, .iconst 0, 1), (11, .istore_n 3, 1), (12, .iload_n 3, 1), (13, .bipush 40, 2), (15, .if_icmp .ge 16, 3), (18, .aload_n 0, 1), (19, .getfield 11, 3), (22, .iload_n 3, 1), (23, .iconst 0, 1), (24, .iastore, 1), (25, .iinc 3 1, 3), (28, .goto (-16), 3), (31, .return_, 1)]
theorem xo175_0 : x_cOk prog_9_method_2_code xc175_0 = true := x_cOk_w (by decide +kernel)
def xg175 : Nat → Option (Instr × Nat) := fun pc => x_at2 pc xc175_0
theorem xh175 : x_Good prog_9_method_2_code xg175 := by
  unfold xg175
  exact x_Good_l xo175_0
def xm175 : XM := (⟨"TwoDigits$Sheet", "become", "(II)V"⟩, prog_9_method_2_code, 4, none, 9, 9, 2, 0, 0, false, xg175)
def xc176_0 : List (Nat × Instr × Nat) := [(0, .aload_n 0, 1), (1, .iload_n 1, 1), (2, .invokevirtual 182, 3), (5, .astore 4, 2), (7, .aload 4, 2), (9, .ifnonnull 6, 3), (12, .bipush (-2), 2), (14, .ireturn, 1), (15, .aload 4, 2), (17, .getfield 206, 3), (20, .iconst (-1), 1), (21, .if_icmp .ne 6, 3), (24, .bipush (-11), 2), (26, .ireturn, 1), (27, .aload 4, 2), (29, .iload_n 2, 1), (30, .iconst 1, 1), (31, .invokevirtual 209, 3), (34, .ifCond .ne 6, 3), (37, .bipush (-12), 2), (39, .ireturn, 1), (40, .aload 4, 2), (42, .iload_n 2, 1), (43, .iload_n 3, 1), (44, .invokevirtual 434, 3), (47, .iconst 1, 1), (48, .ireturn, 1)]
theorem xo176_0 : x_cOk prog_1_method_58_code xc176_0 = true := x_cOk_w (by decide +kernel)
def xg176 : Nat → Option (Instr × Nat) := fun pc => x_at2 pc xc176_0
theorem xh176 : x_Good prog_1_method_58_code xg176 := by
  unfold xg176
  exact x_Good_l xo176_0
def xm176 : XM := (⟨"TwoDigits", "cell", "(III)I"⟩, prog_1_method_58_code, 5, some .int, 0, 0, 3, 0, 0, false, xg176)
def xc177_0 : List (Nat × Instr × Nat) := [(0, .aload_n 0, 1), (1, .getfield 15, 3), (4, .lookupswitch 50 #[(0, 28), (1, 39)], 28), (32, .aload_n 0, 1), (33, .getfield 11, 3), (36, .iload_n 1, 1), (37, .iload_n 2, 1), (38, .i2b, 1), (39, .iastore, 1), (40, .goto 21, 3), (43, .aload_n 0, 1), (44, .getfield 11, 3), (47, .iload_n 1, 1), (48, .iload_n 2, 1), (49, .i2s, 1), (50, .iastore, 1), (51, .goto 10, 3), (54, .aload_n 0, 1), (55, .getfield 11, 3), (58, .iload_n 1, 1), (59, .iload_n 2, 1), (60, .iastore, 1), (61, .return_, 1)]
theorem xo177_0 : x_cOk prog_9_method_5_code xc177_0 = true := x_cOk_w (by decide +kernel)
def xg177 : Nat → Option (Instr × Nat) := fun pc => x_at2 pc xc177_0
theorem xh177 : x_Good prog_9_method_5_code xg177 := by
  unfold xg177
  exact x_Good_l xo177_0
def xm177 : XM := (⟨"TwoDigits$Sheet", "put", "(II)V"⟩, prog_9_method_5_code, 3, none, 9, 9, 2, 0, 0, false, xg177)
def xc178_0 : List (Nat × Instr × Nat) := [(0, .aload_n 0, 1), (1, .iload_n 1, 1), (2, .invokevirtual 182, 3), (5, .astore 6, 2), (7, .aload_n 0, 1), (8, .iload_n 3, 1), (9, .invokevirtual 182, 3), (12, .astore 7, 2), (14, .aload 6, 2), (16, .ifnull 8, 3), (19, .aload 7, 2), (21, .ifnonnull 6, 3), (24, .bipush (-2), 2), (26, .ireturn, 1), (27, .aload 6, 2), (29, .getfield 206, 3), (32, .iconst (-1), 1), (33, .if_icmp .eq 12, 3), (36, .aload 7, 2), (38, .getfield 206, 3), (41, .iconst (-1), 1), (42, .if_icmp .ne 6, 3), (45, .bipush (-11), 2), (47, .ireturn, 1), (48, .aload 6, 2), (50, .getfield 206, 3), (53, .aload 7, 2), (55, .getfield 206, 3), (58, .if_icmp .eq 6, 3), (61, .bipush (-13), 2), (63, .ireturn, 1), (64, .aload 6, 2), (66, .iload_n 2, 1), (67, .iload 5, 2), (69, .invokevirtual 209, 3), (72, .ifCond .eq 15, 3), (75, .aload 7, 2), (77, .iload 4, 2), (79, .iload 5, 2), (81, .invokevirtual 209, 3), (84, .ifCond .ne 6, 3), (87, .bipush (-12), 2), (89, .ireturn, 1), (90, .aload 6, 2), (92, .getfield 436, 3), (95, .iload_n 2, 1), (96, .aload 7, 2), (98, .getfield 436, 3)]
theorem xo178_0 : x_cOk prog_1_method_59_code xc178_0 = true := x_cOk_w (by decide +kernel)
def xc178_1 : List (Nat × Instr × Nat) := [(101, .iload 4, 2), (103, .iload 5, 2), (105, .invokestatic 439, 3), (108, .iload 5, 2), (110, .ireturn, 1)]
theorem xo178_1 : x_cOk prog_1_method_59_code xc178_1 = true := x_cOk_w (by decide +kernel)
def xg178 : Nat → Option (Instr × Nat) := fun pc => if pc < 101 then x_at2 pc xc178_0 else x_at2 pc xc178_1
theorem xh178 : x_Good prog_1_method_59_code xg178 := by
  unfold xg178
  exact x_Good_ite (x_Good_l xo178_0) (x_Good_l xo178_1)
def xm178 : XM := (⟨"TwoDigits", "copy", "(IIIII)I"⟩, prog_1_method_59_code, 8, some .int, 0, 0, 5, 0, 0, false, xg178)
def xc179_0 : List (Nat × Instr × Nat) := [(0, .aload_n 0, 1), (1, .invokespecial 1, 3), (4, .aload_n 0, 1), (5, .bipush 13, 2), (7, .newarray .int, 2), (9, .putfield 9, 3), (12, .aload_n 0, 1), (13, .bipush 13, 2), (15, .bipush 48, 2), (17, .multianewarray 13 2, 4), (21, .putfield 15, 3), (24, .aload_n 0, 1), (25, .bipush 12, 2), (27, .bipush 6, 2), (29, .multianewarray 13 2, 4), (33, .putfield 18, 3), (36, .aload_n 0, 1), (37, .bipush 12, 2), (39, .bipush 6, 2), (41, .multianewarray 13 2, 4), (45, .putfield 21, 3), (48, .aload_n 0, 1), (49, .bipush 12, 2), (51, .newarray .int, 2), (53, .putfield 24, 3), (56, .aload_n 0, 1), (57, .bipush 12, 2), (59, .newarray .int, 2), (61, .putfield 27, 3), (64, .aload_n 0, 1), (65, .bipush 12, 2), (67, .newarray .int, 2), (69, .putfield 30, 3), (72, .aload_n 0, 1), (73, .bipush 12, 2), (75, .newarray .int, 2), (77, .putfield 33, 3), (80, .aload_n 0, 1), (81, .bipush 12, 2), (83, .newarray .int, 2), (85, .putfield 36, 3), (88, .aload_n 0, 1), (89, .bipush 12, 2), (91, .newarray .int, 2), (93, .putfield 39, 3), (96, .aload_n 0, 1), (97, .bipush 12, 2), (99, .bipush 12, 2)]
theorem xo179_0 : x_cOk prog_14_method_1_code xc179_0 = true := x_cOk_w (by decide +kernel)
def xc179_1 : List (Nat × Instr × Nat) := [(101, .multianewarray 13 2, 4), (105, .putfield 42, 3), (108, .aload_n 0, 1), (109, .bipush 12, 2), (111, .newarray .int, 2), (113, .putfield 45, 3), (116, .aload_n 0, 1), (117, .bipush 12, 2), (119, .bipush 12, 2), (121, .multianewarray 13 2, 4), (125, .putfield 48, 3), (128, .aload_n 0, 1), (129, .bipush 12, 2), (131, .newarray .int, 2), (133, .putfield 51, 3), (136, .aload_n 0, 1), (137, .bipush 12, 2), (139, .bipush 12, 2), (141, .multianewarray 13 2, 4), (145, .putfield 54, 3), (148, .aload_n 0, 1), (149, .bipush 12, 2), (151, .newarray .int, 2), (153, .putfield 57, 3), (156, .aload_n 0, 1), (157, .bipush 12, 2), (159, .iconst 5, 1), (160, .multianewarray 13 2, 4), (164, .putfield 60, 3), (167, .aload_n 0, 1), (168, .bipush 12, 2), (170, .newarray .boolean, 2), (172, .putfield 63, 3), (175, .aload_n 0, 1), (176, .bipush 12, 2), (178, .newarray .boolean, 2), (180, .putfield 67, 3), (183, .aload_n 0, 1), (184, .sipush 160, 3), (187, .newarray .int, 2), (189, .putfield 70, 3), (192, .aload_n 0, 1), (193, .sipush 200, 3), (196, .iconst 4, 1), (197, .multianewarray 13 2, 4), (201, .putfield 73, 3), (204, .aload_n 0, 1), (205, .bipush 6, 2)]
theorem xo179_1 : x_cOk prog_14_method_1_code xc179_1 = true := x_cOk_w (by decide +kernel)
def xc179_2 : List (Nat × Instr × Nat) := [(207, .newarray .int, 2), (209, .putfield 76, 3), (212, .aload_n 0, 1), (213, .bipush 6, 2), (215, .newarray .int, 2), (217, .putfield 79, 3), (220, .aload_n 0, 1), (221, .bipush 6, 2), (223, .newarray .int, 2), (225, .putfield 82, 3), (228, .aload_n 0, 1), (229, .bipush 6, 2), (231, .bipush 30, 2), (233, .multianewarray 13 2, 4), (237, .putfield 85, 3), (240, .aload_n 0, 1), (241, .bipush 60, 2), (243, .iconst 5, 1), (244, .multianewarray 13 2, 4), (248, .putfield 88, 3), (251, .aload_n 0, 1), (252, .bipush 8, 2), (254, .newarray .int, 2), (256, .putfield 91, 3), (259, .aload_n 0, 1), (260, .bipush 8, 2), (262, .iconst 4, 1), (263, .multianewarray 13 2, 4), (267, .putfield 94, 3), (270, .aload_n 0, 1), (271, .bipush 8, 2), (273, .iconst 4, 1), (274, .multianewarray 13 2, 4), (278, .putfield 97, 3), (281, .aload_n 0, 1), (282, .bipush 40, 2), (284, .newarray .int, 2), (286, .putfield 100, 3), (289, .aload_n 0, 1), (290, .bipush 40, 2), (292, .newarray .int, 2), (294, .putfield 103, 3), (297, .aload_n 0, 1), (298, .iconst 3, 1), (299, .newarray .int, 2), (301, .dup, 1), (302, .iconst 0, 1), (303, .iconst (-1), 1)]
theorem xo179_2 : x_cOk prog_14_method_1_code xc179_2 = true := x_cOk_w (by decide +kernel)
def xc179_3 : List (Nat × Instr × Nat) := [(304, .iastore, 1), (305, .dup, 1), (306, .iconst 1, 1), (307, .iconst (-1), 1), (308, .iastore, 1), (309, .dup, 1), (310, .iconst 2, 1), (311, .iconst (-1), 1), (312, .iastore, 1), (313, .putfield 106, 3), (316, .aload_n 0, 1), (317, .iconst 3, 1), (318, .newarray .int, 2), (320, .putfield 109, 3), (323, .aload_n 0, 1), (324, .iconst 3, 1), (325, .bipush 40, 2), (327, .multianewarray 13 2, 4), (331, .putfield 112, 3), (334, .aload_n 0, 1), (335, .bipush 20, 2), (337, .newarray .int, 2), (339, .putfield 115, 3), (342, .aload_n 0, 1), (343, .iconst 4, 1), (344, .newarray .int, 2), (346, .putfield 118, 3), (349, .aload_n 0, 1), (350, .iconst 2, 1), (351, .bipush 6, 2), (353, .multianewarray 13 2, 4), (357, .putfield 121, 3), (360, .aload_n 0, 1), (361, .iconst 2, 1), (362, .newarray .int, 2), (364, .putfield 124, 3), (367, .aload_n 0, 1), (368, .iconst 2, 1), (369, .newarray .int, 2), (371, .putfield 127, 3), (374, .aload_n 0, 1), (375, .iconst 2, 1), (376, .newarray .int, 2), (378, .putfield 130, 3), (381, .aload_n 0, 1), (382, .iconst 2, 1), (383, .newarray .int, 2), (385, .putfield 133, 3)]
theorem xo179_3 : x_cOk prog_14_method_1_code xc179_3 = true := x_cOk_w (by decide +kernel)
def xc179_4 : List (Nat × Instr × Nat) := [(388, .aload_n 0, 1), (389, .iconst 2, 1), (390, .bipush 12, 2), (392, .multianewarray 13 2, 4), (396, .putfield 136, 3), (399, .aload_n 0, 1), (400, .iconst 2, 1), (401, .newarray .int, 2), (403, .putfield 139, 3), (406, .aload_n 0, 1), (407, .iconst 2, 1), (408, .newarray .int, 2), (410, .putfield 142, 3), (413, .aload_n 0, 1), (414, .bipush 12, 2), (416, .bipush 12, 2), (418, .multianewarray 13 2, 4), (422, .putfield 145, 3), (425, .aload_n 0, 1), (426, .bipush 12, 2), (428, .bipush 12, 2), (430, .multianewarray 13 2, 4), (434, .putfield 148, 3), (437, .aload_n 0, 1), (438, .bipush 12, 2), (440, .newarray .int, 2), (442, .putfield 151, 3), (445, .aload_n 0, 1), (446, .bipush 12, 2), (448, .newarray .int, 2), (450, .putfield 154, 3), (453, .aload_n 0, 1), (454, .bipush 12, 2), (456, .bipush 6, 2), (458, .multianewarray 157 2, 4), (462, .putfield 159, 3), (465, .aload_n 0, 1), (466, .bipush 12, 2), (468, .newarray .int, 2), (470, .putfield 162, 3), (473, .aload_n 0, 1), (474, .sipush 303, 3), (477, .newarray .boolean, 2), (479, .putfield 165, 3), (482, .aload_n 0, 1), (483, .iconst 4, 1), (484, .sipush 256, 3), (487, .multianewarray 157 2, 4)]
theorem xo179_4 : x_cOk prog_14_method_1_code xc179_4 = true := x_cOk_w (by decide +kernel)
def xc179_5 : List (Nat × Instr × Nat) := [(491, .putfield 168, 3), (494, .return_, 1)]
theorem xo179_5 : x_cOk prog_14_method_1_code xc179_5 = true := x_cOk_w (by decide +kernel)
def xg179 : Nat → Option (Instr × Nat) := fun pc => if pc < 101 then x_at2 pc xc179_0 else if pc < 207 then x_at2 pc xc179_1 else if pc < 304 then x_at2 pc xc179_2 else if pc < 388 then x_at2 pc xc179_3 else if pc < 491 then x_at2 pc xc179_4 else x_at2 pc xc179_5
theorem xh179 : x_Good prog_14_method_1_code xg179 := by
  unfold xg179
  exact x_Good_ite (x_Good_l xo179_0) (x_Good_ite (x_Good_l xo179_1) (x_Good_ite (x_Good_l xo179_2) (x_Good_ite (x_Good_l xo179_3) (x_Good_ite (x_Good_l xo179_4) (x_Good_l xo179_5)))))
def xm179 : XM := (⟨"TwoDigitsModel", "<init>", "()V"⟩, prog_14_method_1_code, 1, none, 12, 12, 0, 466, 5350, true, xg179)
end XCode4
