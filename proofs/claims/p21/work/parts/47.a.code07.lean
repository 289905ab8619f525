/-! Instructions, by program: part 7. -/
noncomputable section XCode7
def xc232_0 : List (Nat × Instr × Nat) := [(0, .iconst 0, 1), (1, .istore 4, 2), (3, .iload 4, 2), (5, .aload_n 0, 1), (6, .getfield 9, 3), (9, .iload_n 1, 1), (10, .iaload, 1), (11, .if_icmp .ge 43, 3), (14, .aload_n 0, 1), (15, .getfield 15, 3), (18, .iload_n 1, 1), (19, .aaload, 1), (20, .iconst 4, 1), (21, .iload 4, 2), (23, .imul, 1), (24, .iaload, 1), (25, .iload_n 2, 1), (26, .if_icmp .ne 22, 3), (29, .aload_n 0, 1), (30, .getfield 15, 3), (33, .iload_n 1, 1), (34, .aaload, 1), (35, .iconst 4, 1), (36, .iload 4, 2), (38, .imul, 1), (39, .iconst 1, 1), (40, .iadd, 1), (41, .iaload, 1), (42, .iload_n 3, 1), (43, .if_icmp .ne 5, 3), (46, .iconst 1, 1), (47, .ireturn, 1), (48, .iinc 4 1, 3), (51, .goto (-48), 3), (54, .iconst 0, 1), (55, .ireturn, 1)]
theorem xo232_0 : x_cOk prog_14_method_52_code xc232_0 = true := x_cOk_w (by decide +kernel)
def xg232 : Nat → Option (Instr × Nat) := fun pc => x_at2 pc xc232_0
theorem xh232 : x_Good prog_14_method_52_code xg232 := by
  unfold xg232
  exact x_Good_l xo232_0
def xm232 : XM := (⟨"TwoDigitsModel", "uses", "(III)Z"⟩, prog_14_method_52_code, 5, some .boolean, 12, 12, 3, 0, 0, false, xg232)
def xc233_0 : List (Nat × Instr × Nat) := [(0, .aload_n 0, 1), (1, .iload_n 1, 1), (2, .invokevirtual 326, 3), (5, .ifCond .eq 23, 3), (8, .iload_n 2, 1), (9, .iconst 0, 1), (10, .bipush 7, 2), (12, .invokestatic 175, 3), (15, .ifCond .eq 13, 3), (18, .iload 4, 2), (20, .iconst 0, 1), (21, .iconst 3, 1), (22, .invokestatic 175, 3), (25, .ifCond .ne 5, 3), (28, .iconst (-1), 1), (29, .ireturn, 1), (30, .iload_n 3, 1), (31, .invokestatic 371, 3), (34, .ifCond .ne 6, 3), (37, .bipush (-2), 2), (39, .ireturn, 1), (40, .iload 4, 2), (42, .ifCond .ne 20, 3), (45, .aload_n 0, 1), (46, .getfield 36, 3), (49, .iload_n 1, 1), (50, .iaload, 1), (51, .ifCond .ne 7, 3), (54, .iconst 1, 1), (55, .goto 70, 3), (58, .iconst 0, 1), (59, .goto 66, 3), (62, .iload 4, 2), (64, .iconst 1, 1), (65, .if_icmp .ne 21, 3), (68, .aload_n 0, 1), (69, .getfield 36, 3), (72, .iload_n 1, 1), (73, .iaload, 1), (74, .iconst 3, 1), (75, .if_icmp .ne 7, 3), (78, .iconst 1, 1), (79, .goto 46, 3), (82, .iconst 0, 1), (83, .goto 42, 3), (86, .iload 4, 2), (88, .iconst 2, 1), (89, .if_icmp .ne 21, 3)]
theorem xo233_0 : x_cOk prog_14_method_57_code xc233_0 = true := x_cOk_w (by decide +kernel)
def xc233_1 : List (Nat × Instr × Nat) := [(92, .aload_n 0, 1), (93, .getfield 36, 3), (96, .iload_n 1, 1), (97, .iaload, 1), (98, .iconst 5, 1), (99, .if_icmp .eq 7, 3), (102, .iconst 1, 1), (103, .goto 22, 3), (106, .iconst 0, 1), (107, .goto 18, 3), (110, .aload_n 0, 1), (111, .getfield 36, 3), (114, .iload_n 1, 1), (115, .iaload, 1), (116, .iconst 5, 1), (117, .if_icmp .ne 7, 3), (120, .iconst 1, 1), (121, .goto 4, 3), (124, .iconst 0, 1), (125, .istore 5, 2), (127, .iload 5, 2), (129, .ifCond .ne 6, 3), (132, .bipush (-3), 2), (134, .ireturn, 1), (135, .iload 4, 2), (137, .iconst 2, 1), (138, .if_icmp .ne 29, 3), (141, .aload_n 0, 1), (142, .getfield 39, 3), (145, .iload_n 1, 1), (146, .aload_n 0, 1), (147, .getfield 36, 3), (150, .iload_n 1, 1), (151, .iaload, 1), (152, .iastore, 1), (153, .aload_n 0, 1), (154, .getfield 63, 3), (157, .iload_n 1, 1), (158, .iconst 0, 1), (159, .bastore, 1), (160, .aload_n 0, 1), (161, .getfield 67, 3), (164, .iload_n 1, 1), (165, .iconst 0, 1), (166, .bastore, 1), (167, .aload_n 0, 1), (168, .getfield 36, 3), (171, .iload_n 1, 1)]
theorem xo233_1 : x_cOk prog_14_method_57_code xc233_1 = true := x_cOk_w (by decide +kernel)
def xc233_2 : List (Nat × Instr × Nat) := [(172, .iload 4, 2), (174, .ifCond .ne 7, 3), (177, .iconst 1, 1), (178, .goto 29, 3), (181, .iload 4, 2), (183, .iconst 1, 1), (184, .if_icmp .ne 7, 3), (187, .iconst 4, 1), (188, .goto 19, 3), (191, .iload 4, 2), (193, .iconst 2, 1), (194, .if_icmp .ne 7, 3), (197, .iconst 5, 1), (198, .goto 9, 3), (201, .aload_n 0, 1), (202, .getfield 39, 3), (205, .iload_n 1, 1), (206, .iaload, 1), (207, .iastore, 1), (208, .aload_n 0, 1), (209, .iload_n 1, 1), (210, .iload_n 2, 1), (211, .iload_n 3, 1), (212, .invokevirtual 374, 3), (215, .aload_n 0, 1), (216, .getfield 36, 3), (219, .iload_n 1, 1), (220, .iaload, 1), (221, .ireturn, 1)]
theorem xo233_2 : x_cOk prog_14_method_57_code xc233_2 = true := x_cOk_w (by decide +kernel)
def xg233 : Nat → Option (Instr × Nat) := fun pc => if pc < 92 then x_at2 pc xc233_0 else if pc < 172 then x_at2 pc xc233_1 else x_at2 pc xc233_2
theorem xh233 : x_Good prog_14_method_57_code xg233 := by
  unfold xg233
  exact x_Good_ite (x_Good_l xo233_0) (x_Good_ite (x_Good_l xo233_1) (x_Good_l xo233_2))
def xm233 : XM := (⟨"TwoDigitsModel", "does", "(IIII)I"⟩, prog_14_method_57_code, 6, some .int, 12, 12, 4, 0, 0, false, xg233)
def xc234_0 : List (Nat × Instr × Nat) := [(0, .iload_n 0, 1), (1, .iconst 0, 1), (2, .sipush 999, 3), (5, .invokestatic 175, 3), (8, .ireturn, 1)]
theorem xo234_0 : x_cOk prog_14_method_56_code xc234_0 = true := x_cOk_w (by decide +kernel)
def xg234 : Nat → Option (Instr × Nat) := fun pc => x_at2 pc xc234_0
theorem xh234 : x_Good prog_14_method_56_code xg234 := by
  unfold xg234
  exact x_Good_l xo234_0
def xm234 : XM := (⟨"TwoDigitsModel", "isDay", "(I)Z"⟩, prog_14_method_56_code, 1, some .boolean, 12, 12, 1, 0, 0, false, xg234)
def xc235_0 : List (Nat × Instr × Nat) := [(0, .aload_n 0, 1), (1, .getfield 368, 3), (4, .sipush 200, 3), (7, .if_icmp .ge 56, 3), (10, .aload_n 0, 1), (11, .getfield 73, 3), (14, .aload_n 0, 1), (15, .getfield 368, 3), (18, .aaload, 1), (19, .iconst 0, 1), (20, .iload_n 1, 1), (21, .iastore, 1), (22, .aload_n 0, 1), (23, .getfield 73, 3), (26, .aload_n 0, 1), (27, .getfield 368, 3), (30, .aaload, 1), (31, .iconst 1, 1), (32, .iload_n 2, 1), (33, .iastore, 1), (34, .aload_n 0, 1), (35, .getfield 73, 3), (38, .aload_n 0, 1), (39, .getfield 368, 3), (42, .aaload, 1), (43, .iconst 2, 1), (44, .iload_n 3, 1), (45, .iastore, 1), (46, .aload_n 0, 1), (47, .getfield 73, 3), (50, .aload_n 0, 1), (51, .getfield 368, 3), (54, .aaload, 1), (55, .iconst 3, 1), (56, .aload_n 0, 1), (57, .getfield 36, 3), (60, .iload_n 1, 1), (61, .iaload, 1), (62, .iastore, 1), (63, .aload_n 0, 1), (64, .dup, 1), (65, .getfield 368, 3), (68, .iconst 1, 1), (69, .iadd, 1), (70, .putfield 368, 3), (73, .return_, 1)]
theorem xo235_0 : x_cOk prog_14_method_55_code xc235_0 = true := x_cOk_w (by decide +kernel)
def xg235 : Nat → Option (Instr × Nat) := fun pc => x_at2 pc xc235_0
theorem xh235 : x_Good prog_14_method_55_code xg235 := by
  unfold xg235
  exact x_Good_l xo235_0
def xm235 : XM := (⟨"TwoDigitsModel", "write", "(III)V"⟩, prog_14_method_55_code, 4, none, 12, 12, 3, 0, 0, false, xg235)
def xc236_0 : List (Nat × Instr × Nat) := [(0, .aload_n 0, 1), (1, .iload_n 1, 1), (2, .invokevirtual 326, 3), (5, .ifCond .eq 23, 3), (8, .iload_n 2, 1), (9, .iconst 0, 1), (10, .bipush 7, 2), (12, .invokestatic 175, 3), (15, .ifCond .eq 13, 3), (18, .iload 4, 2), (20, .iconst 0, 1), (21, .iconst 5, 1), (22, .invokestatic 175, 3), (25, .ifCond .ne 5, 3), (28, .iconst (-1), 1), (29, .ireturn, 1), (30, .iload_n 3, 1), (31, .invokestatic 371, 3), (34, .ifCond .eq 13, 3), (37, .iload 5, 2), (39, .iload 6, 2), (41, .invokestatic 377, 3), (44, .ifCond .ne 6, 3), (47, .bipush (-2), 2), (49, .ireturn, 1), (50, .aload_n 0, 1), (51, .iload_n 1, 1), (52, .invokevirtual 380, 3), (55, .ifCond .ne 6, 3), (58, .bipush (-3), 2), (60, .ireturn, 1), (61, .aload_n 0, 1), (62, .getfield 18, 3), (65, .iload_n 1, 1), (66, .aaload, 1), (67, .iload 4, 2), (69, .iload 5, 2), (71, .iastore, 1), (72, .aload_n 0, 1), (73, .getfield 21, 3), (76, .iload_n 1, 1), (77, .aaload, 1), (78, .iload 4, 2), (80, .iload 6, 2), (82, .iastore, 1), (83, .aload_n 0, 1), (84, .getfield 36, 3), (87, .iload_n 1, 1)]
theorem xo236_0 : x_cOk prog_14_method_60_code xc236_0 = true := x_cOk_w (by decide +kernel)
def xc236_1 : List (Nat × Instr × Nat) := [(88, .iconst 2, 1), (89, .iastore, 1), (90, .aload_n 0, 1), (91, .iload_n 1, 1), (92, .iload_n 2, 1), (93, .iload_n 3, 1), (94, .invokevirtual 374, 3), (97, .iconst 2, 1), (98, .ireturn, 1)]
theorem xo236_1 : x_cOk prog_14_method_60_code xc236_1 = true := x_cOk_w (by decide +kernel)
def xg236 : Nat → Option (Instr × Nat) := fun pc => if pc < 88 then x_at2 pc xc236_0 else x_at2 pc xc236_1
theorem xh236 : x_Good prog_14_method_60_code xg236 := by
  unfold xg236
  exact x_Good_ite (x_Good_l xo236_0) (x_Good_l xo236_1)
def xm236 : XM := (⟨"TwoDigitsModel", "mend", "(IIIIII)I"⟩, prog_14_method_60_code, 7, some .int, 12, 12, 6, 0, 0, false, xg236)
def xc237_0 : List (Nat × Instr × Nat) := [(0, .iload_n 0, 1), (1, .iconst 2, 1), (2, .if_icmp .eq 8, 3), (5, .iload_n 0, 1), (6, .iconst 4, 1), (7, .if_icmp .ne 17, 3), (10, .iload_n 1, 1), (11, .iconst (-1), 1), (12, .bipush 100, 2), (14, .invokestatic 175, 3), (17, .ifCond .eq 7, 3), (20, .iconst 1, 1), (21, .goto 4, 3), (24, .iconst 0, 1), (25, .ireturn, 1)]
theorem xo237_0 : x_cOk prog_14_method_58_code xc237_0 = true := x_cOk_w (by decide +kernel)
def xg237 : Nat → Option (Instr × Nat) := fun pc => x_at2 pc xc237_0
theorem xh237 : x_Good prog_14_method_58_code xg237 := by
  unfold xg237
  exact x_Good_l xo237_0
def xm237 : XM := (⟨"TwoDigitsModel", "isDigits", "(II)Z"⟩, prog_14_method_58_code, 2, some .boolean, 12, 12, 2, 0, 0, false, xg237)
def xc238_0 : List (Nat × Instr × Nat) := [(0, .aload_n 0, 1), (1, .getfield 36, 3), (4, .iload_n 1, 1), (5, .iaload, 1), (6, .iconst 1, 1), (7, .iconst 3, 1), (8, .invokestatic 175, 3), (11, .ireturn, 1)]
theorem xo238_0 : x_cOk prog_14_method_59_code xc238_0 = true := x_cOk_w (by decide +kernel)
def xg238 : Nat → Option (Instr × Nat) := fun pc => x_at2 pc xc238_0
theorem xh238 : x_Good prog_14_method_59_code xg238 := by
  unfold xg238
  exact x_Good_l xo238_0
def xm238 : XM := (⟨"TwoDigitsModel", "mends", "(I)Z"⟩, prog_14_method_59_code, 2, some .boolean, 12, 12, 1, 0, 0, false, xg238)
def xc239_0 : List (Nat × Instr × Nat) := [(0, .aload_n 0, 1), (1, .iload_n 1, 1), (2, .invokevirtual 326, 3), (5, .ifCond .eq 13, 3), (8, .iload_n 2, 1), (9, .iconst 0, 1), (10, .bipush 7, 2), (12, .invokestatic 175, 3), (15, .ifCond .ne 5, 3), (18, .iconst (-1), 1), (19, .ireturn, 1), (20, .iload_n 3, 1), (21, .invokestatic 371, 3), (24, .ifCond .eq 13, 3), (27, .iload 4, 2), (29, .iconst 0, 1), (30, .iconst 2, 1), (31, .invokestatic 175, 3), (34, .ifCond .ne 6, 3), (37, .bipush (-2), 2), (39, .ireturn, 1), (40, .aload_n 0, 1), (41, .iload_n 1, 1), (42, .invokevirtual 380, 3), (45, .ifCond .ne 6, 3), (48, .bipush (-3), 2), (50, .ireturn, 1), (51, .aload_n 0, 1), (52, .getfield 24, 3), (55, .iload_n 1, 1), (56, .iload 4, 2), (58, .iastore, 1), (59, .aload_n 0, 1), (60, .getfield 36, 3), (63, .iload_n 1, 1), (64, .iconst 2, 1), (65, .iastore, 1), (66, .aload_n 0, 1), (67, .iload_n 1, 1), (68, .iload_n 2, 1), (69, .iload_n 3, 1), (70, .invokevirtual 374, 3), (73, .iconst 2, 1), (74, .ireturn, 1)]
theorem xo239_0 : x_cOk prog_14_method_61_code xc239_0 = true := x_cOk_w (by decide +kernel)
def xg239 : Nat → Option (Instr × Nat) := fun pc => x_at2 pc xc239_0
theorem xh239 : x_Good prog_14_method_61_code xg239 := by
  unfold xg239
  exact x_Good_l xo239_0
def xm239 : XM := (⟨"TwoDigitsModel", "mendRule", "(IIII)I"⟩, prog_14_method_61_code, 5, some .int, 12, 12, 4, 0, 0, false, xg239)
def xc240_0 : List (Nat × Instr × Nat) := [(0, .aload_n 0, 1), (1, .iload_n 1, 1), (2, .invokevirtual 326, 3), (5, .ifCond .eq 13, 3), (8, .iload_n 2, 1), (9, .iconst 0, 1), (10, .bipush 7, 2), (12, .invokestatic 175, 3), (15, .ifCond .ne 5, 3), (18, .iconst (-1), 1), (19, .ireturn, 1), (20, .iload_n 3, 1), (21, .invokestatic 371, 3), (24, .ifCond .eq 11, 3), (27, .iload 4, 2), (29, .invokestatic 271, 3), (32, .ifCond .ne 6, 3), (35, .bipush (-2), 2), (37, .ireturn, 1), (38, .aload_n 0, 1), (39, .getfield 36, 3), (42, .iload_n 1, 1), (43, .iaload, 1), (44, .iconst 2, 1), (45, .if_icmp .eq 6, 3), (48, .bipush (-3), 2), (50, .ireturn, 1), (51, .aload_n 0, 1), (52, .iload_n 1, 1), (53, .aload_n 0, 1), (54, .iload_n 1, 1), (55, .iload 4, 2), (57, .invokevirtual 329, 3), (60, .invokevirtual 331, 3), (63, .aload_n 0, 1), (64, .getfield 36, 3), (67, .iload_n 1, 1), (68, .aload_n 0, 1), (69, .getfield 67, 3), (72, .iload_n 1, 1), (73, .baload, 1), (74, .ifCond .eq 7, 3), (77, .iconst 2, 1), (78, .goto 4, 3), (81, .iconst 3, 1), (82, .iastore, 1), (83, .aload_n 0, 1), (84, .iload_n 1, 1)]
theorem xo240_0 : x_cOk prog_14_method_62_code xc240_0 = true := x_cOk_w (by decide +kernel)
def xc240_1 : List (Nat × Instr × Nat) := [(85, .iload_n 2, 1), (86, .iload_n 3, 1), (87, .invokevirtual 374, 3), (90, .aload_n 0, 1), (91, .getfield 36, 3), (94, .iload_n 1, 1), (95, .iaload, 1), (96, .ireturn, 1)]
theorem xo240_1 : x_cOk prog_14_method_62_code xc240_1 = true := x_cOk_w (by decide +kernel)
def xg240 : Nat → Option (Instr × Nat) := fun pc => if pc < 85 then x_at2 pc xc240_0 else x_at2 pc xc240_1
theorem xh240 : x_Good prog_14_method_62_code xg240 := by
  unfold xg240
  exact x_Good_ite (x_Good_l xo240_0) (x_Good_l xo240_1)
def xm240 : XM := (⟨"TwoDigitsModel", "test", "(IIII)I"⟩, prog_14_method_62_code, 5, some .int, 12, 12, 4, 0, 0, false, xg240)
def xc241_0 : List (Nat × Instr × Nat) := [(0, .iload_n 1, 1), (1, .iconst 0, 1), (2, .aload_n 0, 1), (3, .getfield 368, 3), (6, .sipush 200, 3), (9, .invokestatic 383, 3), (12, .iconst 1, 1), (13, .isub, 1), (14, .invokestatic 175, 3), (17, .ifCond .eq 23, 3), (20, .iload_n 2, 1), (21, .iconst 0, 1), (22, .iconst 3, 1), (23, .invokestatic 175, 3), (26, .ifCond .eq 14, 3), (29, .aload_n 0, 1), (30, .getfield 73, 3), (33, .iload_n 1, 1), (34, .aaload, 1), (35, .iload_n 2, 1), (36, .iaload, 1), (37, .goto 5, 3), (40, .bipush (-5), 2), (42, .ireturn, 1)]
theorem xo241_0 : x_cOk prog_14_method_63_code xc241_0 = true := x_cOk_w (by decide +kernel)
def xg241 : Nat → Option (Instr × Nat) := fun pc => x_at2 pc xc241_0
theorem xh241 : x_Good prog_14_method_63_code xg241 := by
  unfold xg241
  exact x_Good_l xo241_0
def xm241 : XM := (⟨"TwoDigitsModel", "book", "(II)I"⟩, prog_14_method_63_code, 3, some .int, 12, 12, 2, 0, 0, false, xg241)
def xc242_0 : List (Nat × Instr × Nat) := [(0, .aload_n 0, 1), (1, .iload_n 1, 1), (2, .invokevirtual 326, 3), (5, .ifCond .eq 22, 3), (8, .iload_n 2, 1), (9, .iconst 0, 1), (10, .iconst 5, 1), (11, .invokestatic 175, 3), (14, .ifCond .eq 13, 3), (17, .iload 5, 2), (19, .iconst 0, 1), (20, .iconst 1, 1), (21, .invokestatic 175, 3), (24, .ifCond .ne 5, 3), (27, .iconst (-1), 1), (28, .ireturn, 1), (29, .iload_n 3, 1), (30, .iload 4, 2), (32, .invokestatic 377, 3), (35, .ifCond .ne 6, 3), (38, .bipush (-2), 2), (40, .ireturn, 1), (41, .iconst 0, 1), (42, .istore 6, 2), (44, .iconst (-1), 1), (45, .istore 7, 2), (47, .sipush 2099, 3), (50, .istore 8, 2), (52, .iload 8, 2), (54, .sipush 1900, 3), (57, .if_icmp .lt 31, 3), (60, .aload_n 0, 1), (61, .iload_n 1, 1), (62, .iload_n 2, 1), (63, .iload_n 3, 1), (64, .iload 4, 2), (66, .iload 8, 2), (68, .iconst 0, 1), (69, .invokevirtual 395, 3), (72, .ifCond .eq 10, 3), (75, .iinc 6 1, 3), (78, .iload 8, 2), (80, .istore 7, 2), (82, .iinc 8 (-1), 3), (85, .goto (-33), 3), (88, .iload 5, 2), (90, .ifCond .ne 8, 3), (93, .iload 6, 2)]
theorem xo242_0 : x_cOk prog_14_method_66_code xc242_0 = true := x_cOk_w (by decide +kernel)
def xc242_1 : List (Nat × Instr × Nat) := [(95, .goto 5, 3), (98, .iload 7, 2), (100, .ireturn, 1)]
theorem xo242_1 : x_cOk prog_14_method_66_code xc242_1 = true := x_cOk_w (by decide +kernel)
def xg242 : Nat → Option (Instr × Nat) := fun pc => if pc < 95 then x_at2 pc xc242_0 else x_at2 pc xc242_1
theorem xh242 : x_Good prog_14_method_66_code xg242 := by
  unfold xg242
  exact x_Good_ite (x_Good_l xo242_0) (x_Good_l xo242_1)
def xm242 : XM := (⟨"TwoDigitsModel", "breaks", "(IIIII)I"⟩, prog_14_method_66_code, 9, some .int, 12, 12, 5, 0, 0, false, xg242)
def xc243_0 : List (Nat × Instr × Nat) := [(0, .aload_n 0, 1), (1, .iload_n 1, 1), (2, .iload 5, 2), (4, .invokevirtual 392, 3), (7, .aload_n 0, 1), (8, .getfield 18, 3), (11, .iload_n 1, 1), (12, .aaload, 1), (13, .iload_n 2, 1), (14, .iaload, 1), (15, .istore 7, 2), (17, .aload_n 0, 1), (18, .getfield 21, 3), (21, .iload_n 1, 1), (22, .aaload, 1), (23, .iload_n 2, 1), (24, .iaload, 1), (25, .istore 8, 2), (27, .aload_n 0, 1), (28, .getfield 18, 3), (31, .iload_n 1, 1), (32, .aaload, 1), (33, .iload_n 2, 1), (34, .iload_n 3, 1), (35, .iastore, 1), (36, .aload_n 0, 1), (37, .getfield 21, 3), (40, .iload_n 1, 1), (41, .aaload, 1), (42, .iload_n 2, 1), (43, .iload 4, 2), (45, .iastore, 1), (46, .aload_n 0, 1), (47, .iload_n 1, 1), (48, .iload 5, 2), (50, .invokevirtual 315, 3), (53, .aload_n 0, 1), (54, .getfield 18, 3), (57, .iload_n 1, 1), (58, .aaload, 1), (59, .iload_n 2, 1), (60, .iload 7, 2), (62, .iastore, 1), (63, .aload_n 0, 1), (64, .getfield 21, 3), (67, .iload_n 1, 1), (68, .aaload, 1), (69, .iload_n 2, 1)]
theorem xo243_0 : x_cOk prog_14_method_65_code xc243_0 = true := x_cOk_w (by decide +kernel)
def xc243_1 : List (Nat × Instr × Nat) := [(70, .iload 8, 2), (72, .iastore, 1), (73, .aload_n 0, 1), (74, .getfield 162, 3), (77, .aload_n 0, 1), (78, .getfield 386, 3), (81, .aload_n 0, 1), (82, .getfield 136, 3), (85, .iconst 0, 1), (86, .aaload, 1), (87, .aload_n 0, 1), (88, .getfield 139, 3), (91, .iconst 0, 1), (92, .iaload, 1), (93, .invokestatic 319, 3), (96, .ifCond .eq 21, 3), (99, .iload 6, 2), (101, .ifCond .eq 20, 3), (104, .aload_n 0, 1), (105, .getfield 389, 3), (108, .aload_n 0, 1), (109, .getfield 133, 3), (112, .iconst 0, 1), (113, .iaload, 1), (114, .if_icmp .eq 7, 3), (117, .iconst 1, 1), (118, .goto 4, 3), (121, .iconst 0, 1), (122, .ireturn, 1)]
theorem xo243_1 : x_cOk prog_14_method_65_code xc243_1 = true := x_cOk_w (by decide +kernel)
def xg243 : Nat → Option (Instr × Nat) := fun pc => if pc < 70 then x_at2 pc xc243_0 else x_at2 pc xc243_1
theorem xh243 : x_Good prog_14_method_65_code xg243 := by
  unfold xg243
  exact x_Good_ite (x_Good_l xo243_0) (x_Good_l xo243_1)
def xm243 : XM := (⟨"TwoDigitsModel", "changes", "(IIIIIZ)Z"⟩, prog_14_method_65_code, 9, some .boolean, 12, 12, 6, 0, 0, false, xg243)
def xc244_0 : List (Nat × Instr × Nat) := [(0, .aload_n 0, 1), (1, .iload_n 1, 1), (2, .iload_n 2, 1), (3, .invokevirtual 315, 3), (6, .aload_n 0, 1), (7, .getfield 136, 3), (10, .iconst 0, 1), (11, .aaload, 1), (12, .iconst 0, 1), (13, .aload_n 0, 1), (14, .getfield 162, 3), (17, .iconst 0, 1), (18, .bipush 12, 2), (20, .invokestatic 262, 3), (23, .aload_n 0, 1), (24, .aload_n 0, 1), (25, .getfield 139, 3), (28, .iconst 0, 1), (29, .iaload, 1), (30, .putfield 386, 3), (33, .aload_n 0, 1), (34, .aload_n 0, 1), (35, .getfield 133, 3), (38, .iconst 0, 1), (39, .iaload, 1), (40, .putfield 389, 3), (43, .return_, 1)]
theorem xo244_0 : x_cOk prog_14_method_64_code xc244_0 = true := x_cOk_w (by decide +kernel)
def xg244 : Nat → Option (Instr × Nat) := fun pc => x_at2 pc xc244_0
theorem xh244 : x_Good prog_14_method_64_code xg244 := by
  unfold xg244
  exact x_Good_l xo244_0
def xm244 : XM := (⟨"TwoDigitsModel", "asIs", "(II)V"⟩, prog_14_method_64_code, 3, none, 12, 12, 2, 0, 0, false, xg244)
def xc245_0 : List (Nat × Instr × Nat) := [(0, .iload_n 1, 1), (1, .invokestatic 271, 3), (4, .ifCond .ne 6, 3), (7, .bipush (-2), 2), (9, .ireturn, 1), (10, .aload_n 0, 1), (11, .getfield 399, 3), (14, .bipush 8, 2), (16, .if_icmp .ne 6, 3), (19, .bipush (-4), 2), (21, .ireturn, 1), (22, .aload_n 0, 1), (23, .getfield 91, 3), (26, .aload_n 0, 1), (27, .getfield 399, 3), (30, .iload_n 1, 1), (31, .iastore, 1), (32, .aload_n 0, 1), (33, .dup, 1), (34, .getfield 399, 3), (37, .dup_x1, 1), (38, .iconst 1, 1), (39, .iadd, 1), (40, .putfield 399, 3), (43, .ireturn, 1)]
theorem xo245_0 : x_cOk prog_14_method_67_code xc245_0 = true := x_cOk_w (by decide +kernel)
def xg245 : Nat → Option (Instr × Nat) := fun pc => x_at2 pc xc245_0
theorem xh245 : x_Good prog_14_method_67_code xg245 := by
  unfold xg245
  exact x_Good_l xo245_0
def xm245 : XM := (⟨"TwoDigitsModel", "testYear", "(I)I"⟩, prog_14_method_67_code, 2, some .int, 12, 12, 1, 0, 0, false, xg245)
def xc246_0 : List (Nat × Instr × Nat) := [(0, .aload_n 0, 1), (1, .iload_n 1, 1), (2, .invokevirtual 326, 3), (5, .ifCond .eq 12, 3), (8, .iload_n 2, 1), (9, .iconst 0, 1), (10, .iconst 5, 1), (11, .invokestatic 175, 3), (14, .ifCond .ne 5, 3), (17, .iconst (-1), 1), (18, .ireturn, 1), (19, .iload_n 3, 1), (20, .iload 4, 2), (22, .invokestatic 377, 3), (25, .ifCond .ne 6, 3), (28, .bipush (-2), 2), (30, .ireturn, 1), (31, .aload_n 0, 1), (32, .getfield 402, 3), (35, .bipush 8, 2), (37, .if_icmp .ne 6, 3), (40, .bipush (-4), 2), (42, .ireturn, 1), (43, .aload_n 0, 1), (44, .getfield 94, 3), (47, .aload_n 0, 1), (48, .getfield 402, 3), (51, .aaload, 1), (52, .iconst 0, 1), (53, .iload_n 1, 1), (54, .iastore, 1), (55, .aload_n 0, 1), (56, .getfield 94, 3), (59, .aload_n 0, 1), (60, .getfield 402, 3), (63, .aaload, 1), (64, .iconst 1, 1), (65, .iload_n 2, 1), (66, .iastore, 1), (67, .aload_n 0, 1), (68, .getfield 94, 3), (71, .aload_n 0, 1), (72, .getfield 402, 3), (75, .aaload, 1), (76, .iconst 2, 1), (77, .iload_n 3, 1), (78, .iastore, 1), (79, .aload_n 0, 1)]
theorem xo246_0 : x_cOk prog_14_method_68_code xc246_0 = true := x_cOk_w (by decide +kernel)
def xc246_1 : List (Nat × Instr × Nat) := [(80, .getfield 94, 3), (83, .aload_n 0, 1), (84, .getfield 402, 3), (87, .aaload, 1), (88, .iconst 3, 1), (89, .iload 4, 2), (91, .iastore, 1), (92, .aload_n 0, 1), (93, .dup, 1), (94, .getfield 402, 3), (97, .dup_x1, 1), (98, .iconst 1, 1), (99, .iadd, 1), (100, .putfield 402, 3), (103, .ireturn, 1)]
theorem xo246_1 : x_cOk prog_14_method_68_code xc246_1 = true := x_cOk_w (by decide +kernel)
def xg246 : Nat → Option (Instr × Nat) := fun pc => if pc < 80 then x_at2 pc xc246_0 else x_at2 pc xc246_1
theorem xh246 : x_Good prog_14_method_68_code xg246 := by
  unfold xg246
  exact x_Good_ite (x_Good_l xo246_0) (x_Good_l xo246_1)
def xm246 : XM := (⟨"TwoDigitsModel", "fault", "(IIII)I"⟩, prog_14_method_68_code, 5, some .int, 12, 12, 4, 0, 0, false, xg246)
def xc247_0 : List (Nat × Instr × Nat) := [(0, .iload_n 1, 1), (1, .iconst 0, 1), (2, .aload_n 0, 1), (3, .getfield 399, 3), (6, .iconst 1, 1), (7, .isub, 1), (8, .invokestatic 175, 3), (11, .ifCond .eq 34, 3), (14, .iload_n 2, 1), (15, .iconst 0, 1), (16, .aload_n 0, 1), (17, .getfield 402, 3), (20, .iconst 1, 1), (21, .isub, 1), (22, .invokestatic 175, 3), (25, .ifCond .eq 20, 3), (28, .aload_n 0, 1), (29, .iload_n 1, 1), (30, .iload_n 2, 1), (31, .invokevirtual 405, 3), (34, .ifCond .eq 7, 3), (37, .iconst 1, 1), (38, .goto 8, 3), (41, .iconst 0, 1), (42, .goto 4, 3), (45, .iconst (-1), 1), (46, .ireturn, 1)]
theorem xo247_0 : x_cOk prog_14_method_70_code xc247_0 = true := x_cOk_w (by decide +kernel)
def xg247 : Nat → Option (Instr × Nat) := fun pc => x_at2 pc xc247_0
theorem xh247 : x_Good prog_14_method_70_code xg247 := by
  unfold xg247
  exact x_Good_l xo247_0
def xm247 : XM := (⟨"TwoDigitsModel", "shows", "(II)I"⟩, prog_14_method_70_code, 3, some .int, 12, 12, 2, 0, 0, false, xg247)
def xc248_0 : List (Nat × Instr × Nat) := [(0, .aload_n 0, 1), (1, .getfield 94, 3), (4, .iload_n 2, 1), (5, .aaload, 1), (6, .astore_n 3, 1), (7, .aload_n 0, 1), (8, .aload_n 3, 1), (9, .iconst 0, 1), (10, .iaload, 1), (11, .aload_n 3, 1), (12, .iconst 1, 1), (13, .iaload, 1), (14, .aload_n 3, 1), (15, .iconst 2, 1), (16, .iaload, 1), (17, .aload_n 3, 1), (18, .iconst 3, 1), (19, .iaload, 1), (20, .aload_n 0, 1), (21, .getfield 91, 3), (24, .iload_n 1, 1), (25, .iaload, 1), (26, .iconst 1, 1), (27, .invokevirtual 395, 3), (30, .ireturn, 1)]
theorem xo248_0 : x_cOk prog_14_method_69_code xc248_0 = true := x_cOk_w (by decide +kernel)
def xg248 : Nat → Option (Instr × Nat) := fun pc => x_at2 pc xc248_0
theorem xh248 : x_Good prog_14_method_69_code xg248 := by
  unfold xg248
  exact x_Good_l xo248_0
def xm248 : XM := (⟨"TwoDigitsModel", "isShown", "(II)Z"⟩, prog_14_method_69_code, 4, some .boolean, 12, 12, 2, 0, 0, false, xg248)
def xc249_0 : List (Nat × Instr × Nat) := [(0, .iload_n 1, 1), (1, .iconst 0, 1), (2, .iconst 1, 1), (3, .invokestatic 175, 3), (6, .ifCond .ne 5, 3), (9, .iconst (-1), 1), (10, .ireturn, 1), (11, .bipush 8, 2), (13, .newarray .int, 2), (15, .astore_n 2, 1), (16, .iconst 0, 1), (17, .istore_n 3, 1), (18, .iconst 0, 1), (19, .istore 4, 2), (21, .iload 4, 2), (23, .aload_n 0, 1), (24, .getfield 399, 3), (27, .if_icmp .ge 60, 3), (30, .iconst 0, 1), (31, .istore 5, 2), (33, .iload 5, 2), (35, .aload_n 0, 1), (36, .getfield 402, 3), (39, .if_icmp .ge 35, 3), (42, .aload_n 2, 1), (43, .iload 4, 2), (45, .dup2, 1), (46, .iaload, 1), (47, .aload_n 0, 1), (48, .iload 4, 2), (50, .iload 5, 2), (52, .invokevirtual 405, 3), (55, .ifCond .eq 10, 3), (58, .iconst 1, 1), (59, .iload 5, 2), (61, .ishl, 1), (62, .goto 4, 3), (65, .iconst 0, 1), (66, .ior, 1), (67, .iastore, 1), (68, .iinc 5 1, 3), (71, .goto (-38), 3), (74, .iload_n 3, 1), (75, .aload_n 2, 1), (76, .iload 4, 2), (78, .iaload, 1), (79, .ior, 1), (80, .istore_n 3, 1)]
theorem xo249_0 : x_cOk prog_14_method_71_code xc249_0 = true := x_cOk_w (by decide +kernel)
def xc249_1 : List (Nat × Instr × Nat) := [(81, .iinc 4 1, 3), (84, .goto (-63), 3), (87, .iconst 1, 1), (88, .aload_n 0, 1), (89, .getfield 399, 3), (92, .ishl, 1), (93, .iconst 1, 1), (94, .isub, 1), (95, .istore 4, 2), (97, .iconst 0, 1), (98, .istore 5, 2), (100, .iload 5, 2), (102, .iconst 1, 1), (103, .aload_n 0, 1), (104, .getfield 399, 3), (107, .ishl, 1), (108, .if_icmp .ge 99, 3), (111, .iconst 0, 1), (112, .istore 6, 2), (114, .iconst 0, 1), (115, .istore 7, 2), (117, .iload 7, 2), (119, .aload_n 0, 1), (120, .getfield 399, 3), (123, .if_icmp .ge 33, 3), (126, .iload 6, 2), (128, .iload 5, 2), (130, .iload 7, 2), (132, .ishr, 1), (133, .iconst 1, 1), (134, .iand, 1), (135, .iconst 1, 1), (136, .if_icmp .ne 10, 3), (139, .aload_n 2, 1), (140, .iload 7, 2), (142, .iaload, 1), (143, .goto 4, 3), (146, .iconst 0, 1), (147, .ior, 1), (148, .istore 6, 2), (150, .iinc 7 1, 3), (153, .goto (-36), 3), (156, .iload 5, 2), (158, .invokestatic 343, 3), (161, .istore 7, 2), (163, .iload 4, 2), (165, .invokestatic 343, 3), (168, .istore 8, 2)]
theorem xo249_1 : x_cOk prog_14_method_71_code xc249_1 = true := x_cOk_w (by decide +kernel)
def xc249_2 : List (Nat × Instr × Nat) := [(170, .iload 6, 2), (172, .iload_n 3, 1), (173, .if_icmp .ne 28, 3), (176, .iload 7, 2), (178, .iload 8, 2), (180, .if_icmp .lt 17, 3), (183, .iload 7, 2), (185, .iload 8, 2), (187, .if_icmp .ne 14, 3), (190, .iload 5, 2), (192, .iload 4, 2), (194, .if_icmp .ge 7, 3), (197, .iload 5, 2), (199, .istore 4, 2), (201, .iinc 5 1, 3), (204, .goto (-104), 3), (207, .iload_n 1, 1), (208, .ifCond .ne 8, 3), (211, .iload 4, 2), (213, .goto 7, 3), (216, .iload_n 3, 1), (217, .invokestatic 343, 3), (220, .ireturn, 1)]
theorem xo249_2 : x_cOk prog_14_method_71_code xc249_2 = true := x_cOk_w (by decide +kernel)
def xg249 : Nat → Option (Instr × Nat) := fun pc => if pc < 81 then x_at2 pc xc249_0 else if pc < 170 then x_at2 pc xc249_1 else x_at2 pc xc249_2
theorem xh249 : x_Good prog_14_method_71_code xg249 := by
  unfold xg249
  exact x_Good_ite (x_Good_l xo249_0) (x_Good_ite (x_Good_l xo249_1) (x_Good_l xo249_2))
def xm249 : XM := (⟨"TwoDigitsModel", "cover", "(I)I"⟩, prog_14_method_71_code, 9, some .int, 12, 12, 1, 1, 8, false, xg249)
def xc250_0 : List (Nat × Instr × Nat) := [(0, .iload_n 1, 1), (1, .iconst 0, 1), (2, .bipush 100, 2), (4, .invokestatic 175, 3), (7, .ifCond .eq 12, 3), (10, .iload_n 2, 1), (11, .iconst 0, 1), (12, .iconst 2, 1), (13, .invokestatic 175, 3), (16, .ifCond .ne 6, 3), (19, .bipush (-2), 2), (21, .ireturn, 1), (22, .aload_n 0, 1), (23, .getfield 408, 3), (26, .bipush 6, 2), (28, .if_icmp .ne 6, 3), (31, .bipush (-4), 2), (33, .ireturn, 1), (34, .aload_n 0, 1), (35, .getfield 76, 3), (38, .aload_n 0, 1), (39, .getfield 408, 3), (42, .iload_n 1, 1), (43, .iastore, 1), (44, .aload_n 0, 1), (45, .getfield 79, 3), (48, .aload_n 0, 1), (49, .getfield 408, 3), (52, .iload_n 2, 1), (53, .iastore, 1), (54, .aload_n 0, 1), (55, .dup, 1), (56, .getfield 408, 3), (59, .dup_x1, 1), (60, .iconst 1, 1), (61, .iadd, 1), (62, .putfield 408, 3), (65, .ireturn, 1)]
theorem xo250_0 : x_cOk prog_14_method_72_code xc250_0 = true := x_cOk_w (by decide +kernel)
def xg250 : Nat → Option (Instr × Nat) := fun pc => x_at2 pc xc250_0
theorem xh250 : x_Good prog_14_method_72_code xg250 := by
  unfold xg250
  exact x_Good_l xo250_0
def xm250 : XM := (⟨"TwoDigitsModel", "chip", "(II)I"⟩, prog_14_method_72_code, 3, some .int, 12, 12, 2, 0, 0, false, xg250)
def xc251_0 : List (Nat × Instr × Nat) := [(0, .iload_n 1, 1), (1, .iconst 0, 1), (2, .aload_n 0, 1), (3, .getfield 408, 3), (6, .iconst 1, 1), (7, .isub, 1), (8, .invokestatic 175, 3), (11, .ifCond .ne 5, 3), (14, .iconst (-1), 1), (15, .ireturn, 1), (16, .iload_n 2, 1), (17, .invokestatic 271, 3), (20, .ifCond .ne 6, 3), (23, .bipush (-2), 2), (25, .ireturn, 1), (26, .aload_n 0, 1), (27, .getfield 82, 3), (30, .iload_n 1, 1), (31, .iaload, 1), (32, .bipush 30, 2), (34, .if_icmp .ne 6, 3), (37, .bipush (-4), 2), (39, .ireturn, 1), (40, .aload_n 0, 1), (41, .getfield 85, 3), (44, .iload_n 1, 1), (45, .aaload, 1), (46, .aload_n 0, 1), (47, .getfield 82, 3), (50, .iload_n 1, 1), (51, .iaload, 1), (52, .iload_n 2, 1), (53, .iastore, 1), (54, .aload_n 0, 1), (55, .getfield 82, 3), (58, .iload_n 1, 1), (59, .dup2, 1), (60, .iaload, 1), (61, .iconst 1, 1), (62, .iadd, 1), (63, .iastore, 1), (64, .aload_n 0, 1), (65, .getfield 76, 3), (68, .iload_n 1, 1), (69, .iaload, 1), (70, .aload_n 0, 1), (71, .getfield 79, 3), (74, .iload_n 1, 1)]
theorem xo251_0 : x_cOk prog_14_method_74_code xc251_0 = true := x_cOk_w (by decide +kernel)
def xc251_1 : List (Nat × Instr × Nat) := [(75, .iaload, 1), (76, .iload_n 2, 1), (77, .invokestatic 411, 3), (80, .ireturn, 1)]
theorem xo251_1 : x_cOk prog_14_method_74_code xc251_1 = true := x_cOk_w (by decide +kernel)
def xg251 : Nat → Option (Instr × Nat) := fun pc => if pc < 75 then x_at2 pc xc251_0 else x_at2 pc xc251_1
theorem xh251 : x_Good prog_14_method_74_code xg251 := by
  unfold xg251
  exact x_Good_ite (x_Good_l xo251_0) (x_Good_l xo251_1)
def xm251 : XM := (⟨"TwoDigitsModel", "ask", "(II)I"⟩, prog_14_method_74_code, 3, some .int, 12, 12, 2, 0, 0, false, xg251)
def xc252_0 : List (Nat × Instr × Nat) := [(0, .iload_n 2, 1), (1, .bipush 100, 2), (3, .irem, 1), (4, .iconst 2, 1), (5, .iload_n 0, 1), (6, .invokestatic 278, 3), (9, .istore_n 3, 1), (10, .iconst 2, 1), (11, .iload_n 3, 1), (12, .imul, 1), (13, .iload_n 3, 1), (14, .iload_n 1, 1), (15, .invokestatic 274, 3), (18, .ifCond .eq 7, 3), (21, .iconst 1, 1), (22, .goto 4, 3), (25, .iconst 0, 1), (26, .iadd, 1), (27, .ireturn, 1)]
theorem xo252_0 : x_cOk prog_14_method_73_code xc252_0 = true := x_cOk_w (by decide +kernel)
def xg252 : Nat → Option (Instr × Nat) := fun pc => x_at2 pc xc252_0
theorem xh252 : x_Good prog_14_method_73_code xg252 := by
  unfold xg252
  exact x_Good_l xo252_0
def xm252 : XM := (⟨"TwoDigitsModel", "answer", "(III)I"⟩, prog_14_method_73_code, 4, some .int, 12, 12, 3, 0, 0, false, xg252)
def xc253_0 : List (Nat × Instr × Nat) := [(0, .iload_n 1, 1), (1, .iconst 0, 1), (2, .aload_n 0, 1), (3, .getfield 408, 3), (6, .iconst 1, 1), (7, .isub, 1), (8, .invokestatic 175, 3), (11, .ifCond .eq 12, 3), (14, .iload_n 2, 1), (15, .iconst 0, 1), (16, .iconst 3, 1), (17, .invokestatic 175, 3), (20, .ifCond .ne 5, 3), (23, .iconst (-1), 1), (24, .ireturn, 1), (25, .iconst 0, 1), (26, .istore_n 3, 1), (27, .iconst (-1), 1), (28, .istore 4, 2), (30, .sipush 302, 3), (33, .istore 5, 2), (35, .iload 5, 2), (37, .ifCond .lt 60, 3), (40, .aload_n 0, 1), (41, .getfield 165, 3), (44, .iload 5, 2), (46, .aload_n 0, 1), (47, .iload_n 1, 1), (48, .iload 5, 2), (50, .invokevirtual 417, 3), (53, .bastore, 1), (54, .iload_n 3, 1), (55, .aload_n 0, 1), (56, .getfield 165, 3), (59, .iload 5, 2), (61, .baload, 1), (62, .ifCond .eq 7, 3), (65, .iconst 1, 1), (66, .goto 4, 3), (69, .iconst 0, 1), (70, .iadd, 1), (71, .istore_n 3, 1), (72, .aload_n 0, 1), (73, .getfield 165, 3), (76, .iload 5, 2), (78, .baload, 1), (79, .ifCond .eq 8, 3), (82, .iload 5, 2)]
theorem xo253_0 : x_cOk prog_14_method_77_code xc253_0 = true := x_cOk_w (by decide +kernel)
def xc253_1 : List (Nat × Instr × Nat) := [(84, .goto 5, 3), (87, .iload 4, 2), (89, .istore 4, 2), (91, .iinc 5 (-1), 3), (94, .goto (-59), 3), (97, .iload_n 2, 1), (98, .iconst 2, 1), (99, .if_icmp .ge 14, 3), (102, .iload_n 2, 1), (103, .ifCond .ne 7, 3), (106, .iload_n 3, 1), (107, .goto 5, 3), (110, .iload 4, 2), (112, .ireturn, 1), (113, .sipush 1900, 3), (116, .istore 5, 2), (118, .aload_n 0, 1), (119, .sipush 1900, 3), (122, .invokevirtual 420, 3), (125, .istore 6, 2), (127, .sipush 1901, 3), (130, .istore 7, 2), (132, .iload 7, 2), (134, .sipush 2100, 3), (137, .if_icmp .ge 32, 3), (140, .aload_n 0, 1), (141, .iload 7, 2), (143, .invokevirtual 420, 3), (146, .istore 8, 2), (148, .iload 8, 2), (150, .iload 6, 2), (152, .if_icmp .ge 11, 3), (155, .iload 8, 2), (157, .istore 6, 2), (159, .iload 7, 2), (161, .istore 5, 2), (163, .iinc 7 1, 3), (166, .goto (-34), 3), (169, .iload_n 2, 1), (170, .iconst 2, 1), (171, .if_icmp .ne 8, 3), (174, .iload 5, 2), (176, .goto 5, 3), (179, .iload 6, 2), (181, .ireturn, 1)]
theorem xo253_1 : x_cOk prog_14_method_77_code xc253_1 = true := x_cOk_w (by decide +kernel)
def xg253 : Nat → Option (Instr × Nat) := fun pc => if pc < 84 then x_at2 pc xc253_0 else x_at2 pc xc253_1
theorem xh253 : x_Good prog_14_method_77_code xg253 := by
  unfold xg253
  exact x_Good_ite (x_Good_l xo253_0) (x_Good_l xo253_1)
def xm253 : XM := (⟨"TwoDigitsModel", "fit", "(II)I"⟩, prog_14_method_77_code, 9, some .int, 12, 12, 2, 400, 1600, false, xg253)
def xc254_0 : List (Nat × Instr × Nat) := [(0, .iconst 0, 1), (1, .istore_n 3, 1), (2, .iload_n 3, 1), (3, .aload_n 0, 1), (4, .getfield 82, 3), (7, .iload_n 1, 1), (8, .iaload, 1), (9, .if_icmp .ge 52, 3), (12, .aload_n 0, 1), (13, .getfield 85, 3), (16, .iload_n 1, 1), (17, .aaload, 1), (18, .iload_n 3, 1), (19, .iaload, 1), (20, .istore 4, 2), (22, .iload_n 2, 1), (23, .iconst 3, 1), (24, .idiv, 1), (25, .iload_n 2, 1), (26, .iconst 3, 1), (27, .irem, 1), (28, .iload 4, 2), (30, .invokestatic 411, 3), (33, .aload_n 0, 1), (34, .getfield 76, 3), (37, .iload_n 1, 1), (38, .iaload, 1), (39, .aload_n 0, 1), (40, .getfield 79, 3), (43, .iload_n 1, 1), (44, .iaload, 1), (45, .iload 4, 2), (47, .invokestatic 411, 3), (50, .if_icmp .eq 5, 3), (53, .iconst 0, 1), (54, .ireturn, 1), (55, .iinc 3 1, 3), (58, .goto (-56), 3), (61, .iconst 1, 1), (62, .ireturn, 1)]
theorem xo254_0 : x_cOk prog_14_method_75_code xc254_0 = true := x_cOk_w (by decide +kernel)
def xg254 : Nat → Option (Instr × Nat) := fun pc => x_at2 pc xc254_0
theorem xh254 : x_Good prog_14_method_75_code xg254 := by
  unfold xg254
  exact x_Good_l xo254_0
def xm254 : XM := (⟨"TwoDigitsModel", "fits", "(II)Z"⟩, prog_14_method_75_code, 5, some .boolean, 12, 12, 2, 0, 0, false, xg254)
def xc255_0 : List (Nat × Instr × Nat) := [(0, .iconst 2, 1), (1, .sipush 1900, 3), (4, .iload_n 1, 1), (5, .bipush 100, 2), (7, .irem, 1), (8, .iadd, 1), (9, .imul, 1), (10, .istore_n 2, 1), (11, .iconst 4, 1), (12, .newarray .int, 2), (14, .astore_n 3, 1), (15, .iconst 0, 1), (16, .istore 4, 2), (18, .iconst 0, 1), (19, .istore 5, 2), (21, .iload 5, 2), (23, .sipush 303, 3), (26, .if_icmp .ge 75, 3), (29, .aload_n 0, 1), (30, .getfield 165, 3), (33, .iload 5, 2), (35, .baload, 1), (36, .ifCond .eq 59, 3), (39, .iload 5, 2), (41, .iconst 3, 1), (42, .idiv, 1), (43, .iload 5, 2), (45, .iconst 3, 1), (46, .irem, 1), (47, .iload_n 1, 1), (48, .invokestatic 411, 3), (51, .iload_n 2, 1), (52, .isub, 1), (53, .istore 6, 2), (55, .iload 6, 2), (57, .iconst 2, 1), (58, .if_icmp .ge 8, 3), (61, .iload 6, 2), (63, .goto 11, 3), (66, .iconst 2, 1), (67, .iload 6, 2), (69, .iadd, 1), (70, .sipush 200, 3), (73, .isub, 1), (74, .istore 7, 2), (76, .aload_n 3, 1), (77, .iload 7, 2), (79, .dup2, 1)]
theorem xo255_0 : x_cOk prog_14_method_76_code xc255_0 = true := x_cOk_w (by decide +kernel)
def xc255_1 : List (Nat × Instr × Nat) := [(80, .iaload, 1), (81, .iconst 1, 1), (82, .iadd, 1), (83, .iastore, 1), (84, .iload 4, 2), (86, .aload_n 3, 1), (87, .iload 7, 2), (89, .iaload, 1), (90, .invokestatic 414, 3), (93, .istore 4, 2), (95, .iinc 5 1, 3), (98, .goto (-77), 3), (101, .iload 4, 2), (103, .ireturn, 1)]
theorem xo255_1 : x_cOk prog_14_method_76_code xc255_1 = true := x_cOk_w (by decide +kernel)
def xg255 : Nat → Option (Instr × Nat) := fun pc => if pc < 80 then x_at2 pc xc255_0 else x_at2 pc xc255_1
theorem xh255 : x_Good prog_14_method_76_code xg255 := by
  unfold xg255
  exact x_Good_ite (x_Good_l xo255_0) (x_Good_l xo255_1)
def xm255 : XM := (⟨"TwoDigitsModel", "alike", "(I)I"⟩, prog_14_method_76_code, 8, some .int, 12, 12, 1, 1, 4, false, xg255)
def xc256_0 : List (Nat × Instr × Nat) := [(0, .aload_n 0, 1), (1, .iload_n 1, 1), (2, .invokevirtual 326, 3), (5, .ifCond .eq 13, 3), (8, .iload 4, 2), (10, .iconst 0, 1), (11, .iconst 5, 1), (12, .invokestatic 175, 3), (15, .ifCond .ne 5, 3), (18, .iconst (-1), 1), (19, .ireturn, 1), (20, .iload_n 2, 1), (21, .invokestatic 371, 3), (24, .ifCond .eq 17, 3), (27, .iload 5, 2), (29, .invokestatic 371, 3), (32, .ifCond .eq 9, 3), (35, .iload 5, 2), (37, .iload_n 2, 1), (38, .if_icmp .ge 6, 3), (41, .bipush (-2), 2), (43, .ireturn, 1), (44, .aload_n 0, 1), (45, .getfield 423, 3), (48, .bipush 60, 2), (50, .if_icmp .ne 6, 3), (53, .bipush (-4), 2), (55, .ireturn, 1), (56, .aload_n 0, 1), (57, .getfield 88, 3), (60, .aload_n 0, 1), (61, .getfield 423, 3), (64, .aaload, 1), (65, .astore 6, 2), (67, .aload 6, 2), (69, .iconst 0, 1), (70, .iload_n 1, 1), (71, .iastore, 1), (72, .aload 6, 2), (74, .iconst 1, 1), (75, .iload_n 2, 1), (76, .iastore, 1), (77, .aload 6, 2), (79, .iconst 2, 1), (80, .iload_n 3, 1), (81, .ifCond .eq 7, 3), (84, .iconst 1, 1), (85, .goto 4, 3)]
theorem xo256_0 : x_cOk prog_14_method_78_code xc256_0 = true := x_cOk_w (by decide +kernel)
def xc256_1 : List (Nat × Instr × Nat) := [(88, .iconst 0, 1), (89, .iastore, 1), (90, .aload 6, 2), (92, .iconst 3, 1), (93, .iload 4, 2), (95, .iastore, 1), (96, .aload 6, 2), (98, .iconst 4, 1), (99, .iload 5, 2), (101, .iastore, 1), (102, .aload_n 0, 1), (103, .dup, 1), (104, .getfield 423, 3), (107, .dup_x1, 1), (108, .iconst 1, 1), (109, .iadd, 1), (110, .putfield 423, 3), (113, .ireturn, 1)]
theorem xo256_1 : x_cOk prog_14_method_78_code xc256_1 = true := x_cOk_w (by decide +kernel)
def xg256 : Nat → Option (Instr × Nat) := fun pc => if pc < 88 then x_at2 pc xc256_0 else x_at2 pc xc256_1
theorem xh256 : x_Good prog_14_method_78_code xg256 := by
  unfold xg256
  exact x_Good_ite (x_Good_l xo256_0) (x_Good_l xo256_1)
def xm256 : XM := (⟨"TwoDigitsModel", "sign", "(IIZII)I"⟩, prog_14_method_78_code, 7, some .int, 12, 12, 5, 0, 0, false, xg256)
def xc257_0 : List (Nat × Instr × Nat) := [(0, .aload_n 0, 1), (1, .iload_n 1, 1), (2, .invokevirtual 326, 3), (5, .ifCond .eq 19, 3), (8, .iload_n 2, 1), (9, .iconst 0, 1), (10, .iconst 5, 1), (11, .invokestatic 175, 3), (14, .ifCond .eq 10, 3), (17, .iload_n 3, 1), (18, .invokestatic 371, 3), (21, .ifCond .ne 6, 3), (24, .bipush (-5), 2), (26, .ireturn, 1), (27, .iconst (-1), 1), (28, .istore 4, 2), (30, .iconst 0, 1), (31, .istore 5, 2), (33, .iload 5, 2), (35, .aload_n 0, 1), (36, .getfield 423, 3), (39, .if_icmp .ge 90, 3), (42, .aload_n 0, 1), (43, .getfield 88, 3), (46, .iload 5, 2), (48, .aaload, 1), (49, .iconst 0, 1), (50, .iaload, 1), (51, .iload_n 1, 1), (52, .if_icmp .ne 33, 3), (55, .aload_n 0, 1), (56, .getfield 88, 3), (59, .iload 5, 2), (61, .aaload, 1), (62, .iconst 3, 1), (63, .iaload, 1), (64, .iload_n 2, 1), (65, .if_icmp .ne 20, 3), (68, .aload_n 0, 1), (69, .getfield 88, 3), (72, .iload 5, 2), (74, .aaload, 1), (75, .iconst 4, 1), (76, .iaload, 1), (77, .iload_n 3, 1), (78, .if_icmp .gt 7, 3), (81, .iconst 1, 1), (82, .goto 4, 3)]
theorem xo257_0 : x_cOk prog_14_method_79_code xc257_0 = true := x_cOk_w (by decide +kernel)
def xc257_1 : List (Nat × Instr × Nat) := [(85, .iconst 0, 1), (86, .istore 6, 2), (88, .iload 6, 2), (90, .ifCond .eq 33, 3), (93, .iload 4, 2), (95, .ifCond .lt 24, 3), (98, .aload_n 0, 1), (99, .getfield 88, 3), (102, .iload 5, 2), (104, .aaload, 1), (105, .iconst 1, 1), (106, .iaload, 1), (107, .aload_n 0, 1), (108, .getfield 88, 3), (111, .iload 4, 2), (113, .aaload, 1), (114, .iconst 1, 1), (115, .iaload, 1), (116, .if_icmp .lt 7, 3), (119, .iload 5, 2), (121, .istore 4, 2), (123, .iinc 5 1, 3), (126, .goto (-93), 3), (129, .iload 4, 2), (131, .ifCond .ge 7, 3), (134, .iconst (-1), 1), (135, .goto 12, 3), (138, .aload_n 0, 1), (139, .getfield 88, 3), (142, .iload 4, 2), (144, .aaload, 1), (145, .iconst 2, 1), (146, .iaload, 1), (147, .ireturn, 1)]
theorem xo257_1 : x_cOk prog_14_method_79_code xc257_1 = true := x_cOk_w (by decide +kernel)
def xg257 : Nat → Option (Instr × Nat) := fun pc => if pc < 85 then x_at2 pc xc257_0 else x_at2 pc xc257_1
theorem xh257 : x_Good prog_14_method_79_code xg257 := by
  unfold xg257
  exact x_Good_ite (x_Good_l xo257_0) (x_Good_l xo257_1)
def xm257 : XM := (⟨"TwoDigitsModel", "knew", "(III)I"⟩, prog_14_method_79_code, 7, some .int, 12, 12, 3, 0, 0, false, xg257)
def xc258_0 : List (Nat × Instr × Nat) := [(0, .iload_n 1, 1), (1, .iconst 0, 1), (2, .bipush 99, 2), (4, .invokestatic 175, 3), (7, .ifCond .eq 35, 3), (10, .iload_n 2, 1), (11, .iconst 0, 1), (12, .sipush 899, 3), (15, .invokestatic 175, 3), (18, .ifCond .eq 24, 3), (21, .iload_n 3, 1), (22, .iconst 1, 1), (23, .bipush 99, 2), (25, .invokestatic 175, 3), (28, .ifCond .eq 14, 3), (31, .iload 4, 2), (33, .iconst 0, 1), (34, .bipush 99, 2), (36, .invokestatic 175, 3), (39, .ifCond .ne 6, 3), (42, .bipush (-2), 2), (44, .ireturn, 1), (45, .aload_n 0, 1), (46, .getfield 426, 3), (49, .bipush 8, 2), (51, .if_icmp .ne 6, 3), (54, .bipush (-4), 2), (56, .ireturn, 1), (57, .aload_n 0, 1), (58, .getfield 97, 3), (61, .aload_n 0, 1), (62, .getfield 426, 3), (65, .aaload, 1), (66, .iconst 0, 1), (67, .iload_n 1, 1), (68, .iastore, 1), (69, .aload_n 0, 1), (70, .getfield 97, 3), (73, .aload_n 0, 1), (74, .getfield 426, 3), (77, .aaload, 1), (78, .iconst 1, 1), (79, .iload_n 2, 1), (80, .iastore, 1), (81, .aload_n 0, 1), (82, .getfield 97, 3), (85, .aload_n 0, 1), (86, .getfield 426, 3)]
theorem xo258_0 : x_cOk prog_14_method_80_code xc258_0 = true := x_cOk_w (by decide +kernel)
def xc258_1 : List (Nat × Instr × Nat) := [(89, .aaload, 1), (90, .iconst 2, 1), (91, .iload_n 3, 1), (92, .iastore, 1), (93, .aload_n 0, 1), (94, .getfield 97, 3), (97, .aload_n 0, 1), (98, .getfield 426, 3), (101, .aaload, 1), (102, .iconst 3, 1), (103, .iload 4, 2), (105, .iastore, 1), (106, .aload_n 0, 1), (107, .dup, 1), (108, .getfield 426, 3), (111, .dup_x1, 1), (112, .iconst 1, 1), (113, .iadd, 1), (114, .putfield 426, 3), (117, .ireturn, 1)]
theorem xo258_1 : x_cOk prog_14_method_80_code xc258_1 = true := x_cOk_w (by decide +kernel)
def xg258 : Nat → Option (Instr × Nat) := fun pc => if pc < 89 then x_at2 pc xc258_0 else x_at2 pc xc258_1
theorem xh258 : x_Good prog_14_method_80_code xg258 := by
  unfold xg258
  exact x_Good_ite (x_Good_l xo258_0) (x_Good_l xo258_1)
def xm258 : XM := (⟨"TwoDigitsModel", "stop", "(IIII)I"⟩, prog_14_method_80_code, 5, some .int, 12, 12, 4, 0, 0, false, xg258)
end XCode7
