/-! Instructions, by program: part 5. -/
noncomputable section XCode5
def xc180_0 : List (Nat × Instr × Nat) := [(0, .iload_n 2, 1), (1, .iconst 0, 1), (2, .iconst 4, 1), (3, .invokestatic 175, 3), (6, .ifCond .ne 6, 3), (9, .bipush (-2), 2), (11, .ireturn, 1), (12, .aload_n 0, 1), (13, .getfield 179, 3), (16, .iload_n 2, 1), (17, .iadd, 1), (18, .sipush 160, 3), (21, .if_icmp .le 6, 3), (24, .bipush (-4), 2), (26, .ireturn, 1), (27, .iload_n 2, 1), (28, .iconst 1, 1), (29, .isub, 1), (30, .istore_n 3, 1), (31, .iload_n 3, 1), (32, .ifCond .lt 35, 3), (35, .aload_n 0, 1), (36, .getfield 70, 3), (39, .aload_n 0, 1), (40, .dup, 1), (41, .getfield 179, 3), (44, .dup_x1, 1), (45, .iconst 1, 1), (46, .iadd, 1), (47, .putfield 179, 3), (50, .iload_n 1, 1), (51, .bipush 8, 2), (53, .iload_n 3, 1), (54, .imul, 1), (55, .ishr, 1), (56, .sipush 255, 3), (59, .iand, 1), (60, .iastore, 1), (61, .iinc 3 (-1), 3), (64, .goto (-33), 3), (67, .aload_n 0, 1), (68, .getfield 179, 3), (71, .ireturn, 1)]
theorem xo180_0 : x_cOk prog_14_method_5_code xc180_0 = true := x_cOk_w (by decide +kernel)
def xg180 : Nat → Option (Instr × Nat) := fun pc => x_at2 pc xc180_0
theorem xh180 : x_Good prog_14_method_5_code xg180 := by
  unfold xg180
  exact x_Good_l xo180_0
def xm180 : XM := (⟨"TwoDigitsModel", "feed", "(II)I"⟩, prog_14_method_5_code, 4, some .int, 12, 12, 2, 0, 0, false, xg180)
def xc181_0 : List (Nat × Instr × Nat) := [(0, .iload_n 1, 1), (1, .iload_n 0, 1), (2, .if_icmp .gt 12, 3), (5, .iload_n 0, 1), (6, .iload_n 2, 1), (7, .if_icmp .gt 7, 3), (10, .iconst 1, 1), (11, .goto 4, 3), (14, .iconst 0, 1), (15, .ireturn, 1)]
theorem xo181_0 : x_cOk prog_14_method_2_code xc181_0 = true := x_cOk_w (by decide +kernel)
def xg181 : Nat → Option (Instr × Nat) := fun pc => x_at2 pc xc181_0
theorem xh181 : x_Good prog_14_method_2_code xg181 := by
  unfold xg181
  exact x_Good_l xo181_0
def xm181 : XM := (⟨"TwoDigitsModel", "in", "(III)Z"⟩, prog_14_method_2_code, 3, some .boolean, 12, 12, 3, 0, 0, false, xg181)
def xc182_0 : List (Nat × Instr × Nat) := [(0, .aload_n 0, 1), (1, .getfield 171, 3), (4, .bipush 12, 2), (6, .if_icmp .ne 6, 3), (9, .bipush (-4), 2), (11, .ireturn, 1), (12, .aload_n 0, 1), (13, .aload_n 0, 1), (14, .getfield 171, 3), (17, .invokevirtual 268, 3), (20, .istore_n 1, 1), (21, .aload_n 0, 1), (22, .iconst 0, 1), (23, .putfield 179, 3), (26, .iload_n 1, 1), (27, .ifCond .ne 11, 3), (30, .bipush (-10), 2), (32, .aload_n 0, 1), (33, .getfield 185, 3), (36, .isub, 1), (37, .ireturn, 1), (38, .aload_n 0, 1), (39, .dup, 1), (40, .getfield 171, 3), (43, .dup_x1, 1), (44, .iconst 1, 1), (45, .iadd, 1), (46, .putfield 171, 3), (49, .istore_n 2, 1), (50, .iconst 0, 1), (51, .istore_n 3, 1), (52, .iload_n 3, 1), (53, .bipush 6, 2), (55, .if_icmp .ge 27, 3), (58, .aload_n 0, 1), (59, .getfield 18, 3), (62, .iload_n 2, 1), (63, .aaload, 1), (64, .iload_n 3, 1), (65, .iconst 2, 1), (66, .iastore, 1), (67, .aload_n 0, 1), (68, .getfield 21, 3), (71, .iload_n 2, 1), (72, .aaload, 1), (73, .iload_n 3, 1), (74, .iconst (-1), 1), (75, .iastore, 1)]
theorem xo182_0 : x_cOk prog_14_method_18_code xc182_0 = true := x_cOk_w (by decide +kernel)
def xc182_1 : List (Nat × Instr × Nat) := [(76, .iinc 3 1, 3), (79, .goto (-27), 3), (82, .aload_n 0, 1), (83, .getfield 27, 3), (86, .iload_n 2, 1), (87, .iconst (-1), 1), (88, .iastore, 1), (89, .aload_n 0, 1), (90, .getfield 30, 3), (93, .iload_n 2, 1), (94, .iconst 1, 1), (95, .iastore, 1), (96, .aload_n 0, 1), (97, .getfield 33, 3), (100, .iload_n 2, 1), (101, .iconst 1, 1), (102, .iastore, 1), (103, .iload_n 2, 1), (104, .ireturn, 1)]
theorem xo182_1 : x_cOk prog_14_method_18_code xc182_1 = true := x_cOk_w (by decide +kernel)
def xg182 : Nat → Option (Instr × Nat) := fun pc => if pc < 76 then x_at2 pc xc182_0 else x_at2 pc xc182_1
theorem xh182 : x_Good prog_14_method_18_code xg182 := by
  unfold xg182
  exact x_Good_ite (x_Good_l xo182_0) (x_Good_l xo182_1)
def xm182 : XM := (⟨"TwoDigitsModel", "program", "()I"⟩, prog_14_method_18_code, 4, some .int, 12, 12, 0, 0, 0, false, xg182)
def xc183_0 : List (Nat × Instr × Nat) := [(0, .aload_n 0, 1), (1, .iconst 0, 1), (2, .putfield 182, 3), (5, .aload_n 0, 1), (6, .getfield 9, 3), (9, .iload_n 1, 1), (10, .iconst 0, 1), (11, .iastore, 1), (12, .aload_n 0, 1), (13, .invokevirtual 259, 3), (16, .ifCond .ne 5, 3), (19, .iconst 0, 1), (20, .ireturn, 1), (21, .aload_n 0, 1), (22, .getfield 118, 3), (25, .iconst 0, 1), (26, .aload_n 0, 1), (27, .getfield 15, 3), (30, .iload_n 1, 1), (31, .aaload, 1), (32, .iconst 4, 1), (33, .aload_n 0, 1), (34, .getfield 9, 3), (37, .iload_n 1, 1), (38, .iaload, 1), (39, .imul, 1), (40, .iconst 4, 1), (41, .invokestatic 262, 3), (44, .aload_n 0, 1), (45, .getfield 9, 3), (48, .iload_n 1, 1), (49, .dup2, 1), (50, .iaload, 1), (51, .iconst 1, 1), (52, .iadd, 1), (53, .iastore, 1), (54, .aload_n 0, 1), (55, .getfield 182, 3), (58, .aload_n 0, 1), (59, .getfield 179, 3), (62, .if_icmp .ne 5, 3), (65, .iconst 1, 1), (66, .ireturn, 1), (67, .aload_n 0, 1), (68, .invokevirtual 194, 3), (71, .bipush 59, 2), (73, .if_icmp .ne 14, 3), (76, .aload_n 0, 1)]
theorem xo183_0 : x_cOk prog_14_method_17_code xc183_0 = true := x_cOk_w (by decide +kernel)
def xc183_1 : List (Nat × Instr × Nat) := [(77, .getfield 9, 3), (80, .iload_n 1, 1), (81, .iaload, 1), (82, .bipush 12, 2), (84, .if_icmp .ne 8, 3), (87, .aload_n 0, 1), (88, .invokevirtual 201, 3), (91, .ireturn, 1), (92, .aload_n 0, 1), (93, .dup, 1), (94, .getfield 182, 3), (97, .iconst 1, 1), (98, .iadd, 1), (99, .putfield 182, 3), (102, .goto (-90), 3)]
theorem xo183_1 : x_cOk prog_14_method_17_code xc183_1 = true := x_cOk_w (by decide +kernel)
def xg183 : Nat → Option (Instr × Nat) := fun pc => if pc < 77 then x_at2 pc xc183_0 else x_at2 pc xc183_1
theorem xh183 : x_Good prog_14_method_17_code xg183 := by
  unfold xg183
  exact x_Good_ite (x_Good_l xo183_0) (x_Good_l xo183_1)
def xm183 : XM := (⟨"TwoDigitsModel", "programHere", "(I)Z"⟩, prog_14_method_17_code, 2, some .boolean, 12, 12, 1, 0, 0, false, xg183)
def xc184_0 : List (Nat × Instr × Nat) := [(0, .aload_n 0, 1), (1, .invokevirtual 194, 3), (4, .tableswitch 286 97 115 #[213, 286, 286, 286, 286, 286, 255, 286, 100, 286, 286, 221, 205, 92, 134, 286, 286, 286, 142], 92), (96, .aload_n 0, 1), (97, .iconst 0, 1), (98, .ldc 233, 2), (100, .invokevirtual 222, 3), (103, .ireturn, 1), (104, .aload_n 0, 1), (105, .dup, 1), (106, .getfield 182, 3), (109, .iconst 1, 1), (110, .iadd, 1), (111, .putfield 182, 3), (114, .aload_n 0, 1), (115, .invokevirtual 194, 3), (118, .bipush 102, 2), (120, .if_icmp .ne 10, 3), (123, .aload_n 0, 1), (124, .invokevirtual 235, 3), (127, .goto 10, 3), (130, .aload_n 0, 1), (131, .iconst 1, 1), (132, .ldc 238, 2), (134, .invokevirtual 222, 3), (137, .ireturn, 1), (138, .aload_n 0, 1), (139, .iconst 2, 1), (140, .ldc 240, 2), (142, .invokevirtual 222, 3), (145, .ireturn, 1), (146, .aload_n 0, 1), (147, .dup, 1), (148, .getfield 182, 3), (151, .iconst 1, 1), (152, .iadd, 1), (153, .putfield 182, 3), (156, .aload_n 0, 1), (157, .invokevirtual 194, 3), (160, .bipush 117, 2), (162, .if_icmp .ne 14, 3), (165, .aload_n 0, 1), (166, .bipush 6, 2), (168, .ldc 242, 2), (170, .invokevirtual 244, 3), (173, .goto 35, 3), (176, .aload_n 0, 1), (177, .iconst 3, 1)]
theorem xo184_0 : x_cOk prog_14_method_16_code xc184_0 = true := x_cOk_w (by decide +kernel)
def xc184_1 : List (Nat × Instr × Nat) := [(178, .ldc 247, 2), (180, .invokevirtual 222, 3), (183, .ifCond .eq 24, 3), (186, .aload_n 0, 1), (187, .ldc 226, 2), (189, .invokevirtual 215, 3), (192, .ifCond .eq 15, 3), (195, .aload_n 0, 1), (196, .iconst 4, 1), (197, .invokevirtual 230, 3), (200, .ifCond .eq 7, 3), (203, .iconst 1, 1), (204, .goto 4, 3), (207, .iconst 0, 1), (208, .ireturn, 1), (209, .aload_n 0, 1), (210, .iconst 4, 1), (211, .ldc 249, 2), (213, .invokevirtual 244, 3), (216, .ireturn, 1), (217, .aload_n 0, 1), (218, .iconst 5, 1), (219, .ldc 251, 2), (221, .invokevirtual 244, 3), (224, .ireturn, 1), (225, .aload_n 0, 1), (226, .bipush 9, 2), (228, .ldc 253, 2), (230, .invokevirtual 222, 3), (233, .ifCond .eq 24, 3), (236, .aload_n 0, 1), (237, .ldc 226, 2), (239, .invokevirtual 215, 3), (242, .ifCond .eq 15, 3), (245, .aload_n 0, 1), (246, .iconst 2, 1), (247, .invokevirtual 230, 3), (250, .ifCond .eq 7, 3), (253, .iconst 1, 1), (254, .goto 4, 3), (257, .iconst 0, 1), (258, .ireturn, 1), (259, .aload_n 0, 1), (260, .getfield 118, 3), (263, .iconst 0, 1), (264, .bipush 10, 2), (266, .iastore, 1), (267, .aload_n 0, 1)]
theorem xo184_1 : x_cOk prog_14_method_16_code xc184_1 = true := x_cOk_w (by decide +kernel)
def xc184_2 : List (Nat × Instr × Nat) := [(268, .ldc 255, 2), (270, .invokevirtual 215, 3), (273, .ifCond .eq 15, 3), (276, .aload_n 0, 1), (277, .iconst 2, 1), (278, .invokevirtual 230, 3), (281, .ifCond .eq 7, 3), (284, .iconst 1, 1), (285, .goto 4, 3), (288, .iconst 0, 1), (289, .ireturn, 1), (290, .aload_n 0, 1), (291, .getfield 118, 3), (294, .iconst 0, 1), (295, .bipush 11, 2), (297, .iastore, 1), (298, .aload_n 0, 1), (299, .ldc_w 257, 3), (302, .invokevirtual 215, 3), (305, .ireturn, 1)]
theorem xo184_2 : x_cOk prog_14_method_16_code xc184_2 = true := x_cOk_w (by decide +kernel)
def xg184 : Nat → Option (Instr × Nat) := fun pc => if pc < 178 then x_at2 pc xc184_0 else if pc < 268 then x_at2 pc xc184_1 else x_at2 pc xc184_2
theorem xh184 : x_Good prog_14_method_16_code xg184 := by
  unfold xg184
  exact x_Good_ite (x_Good_l xo184_0) (x_Good_ite (x_Good_l xo184_1) (x_Good_l xo184_2))
def xm184 : XM := (⟨"TwoDigitsModel", "lineHere", "()Z"⟩, prog_14_method_16_code, 1, some .boolean, 12, 12, 0, 0, 0, false, xg184)
def xc185_0 : List (Nat × Instr × Nat) := [(0, .aload_n 0, 1), (1, .getfield 182, 3), (4, .aload_n 0, 1), (5, .getfield 179, 3), (8, .if_icmp .ge 15, 3), (11, .aload_n 0, 1), (12, .getfield 70, 3), (15, .aload_n 0, 1), (16, .getfield 182, 3), (19, .iaload, 1), (20, .goto 4, 3), (23, .iconst (-1), 1), (24, .ireturn, 1)]
theorem xo185_0 : x_cOk prog_14_method_6_code xc185_0 = true := x_cOk_w (by decide +kernel)
def xg185 : Nat → Option (Instr × Nat) := fun pc => x_at2 pc xc185_0
theorem xh185 : x_Good prog_14_method_6_code xg185 := by
  unfold xg185
  exact x_Good_l xo185_0
def xm185 : XM := (⟨"TwoDigitsModel", "here", "()I"⟩, prog_14_method_6_code, 1, some .int, 12, 12, 0, 0, 0, false, xg185)
def xc186_0 : List (Nat × Instr × Nat) := [(0, .aload_n 0, 1), (1, .getfield 118, 3), (4, .iconst 0, 1), (5, .iload_n 1, 1), (6, .iastore, 1), (7, .aload_n 0, 1), (8, .aload_n 2, 1), (9, .invokevirtual 215, 3), (12, .ifCond .eq 15, 3), (15, .aload_n 0, 1), (16, .iconst 1, 1), (17, .invokevirtual 219, 3), (20, .ifCond .eq 7, 3), (23, .iconst 1, 1), (24, .goto 4, 3), (27, .iconst 0, 1), (28, .ireturn, 1)]
theorem xo186_0 : x_cOk prog_14_method_13_code xc186_0 = true := x_cOk_w (by decide +kernel)
def xg186 : Nat → Option (Instr × Nat) := fun pc => x_at2 pc xc186_0
theorem xh186 : x_Good prog_14_method_13_code xg186 := by
  unfold xg186
  exact x_Good_l xo186_0
def xm186 : XM := (⟨"TwoDigitsModel", "one", "(ILjava/lang/String;)Z"⟩, prog_14_method_13_code, 3, some .boolean, 12, 12, 2, 0, 0, false, xg186)
def xc187_0 : List (Nat × Instr × Nat) := [(0, .iconst 0, 1), (1, .istore_n 2, 1), (2, .iload_n 2, 1), (3, .aload_n 1, 1), (4, .invokevirtual 188, 3), (7, .if_icmp .ge 36, 3), (10, .aload_n 0, 1), (11, .invokevirtual 194, 3), (14, .aload_n 1, 1), (15, .iload_n 2, 1), (16, .invokevirtual 197, 3), (19, .if_icmp .eq 8, 3), (22, .aload_n 0, 1), (23, .invokevirtual 201, 3), (26, .ireturn, 1), (27, .aload_n 0, 1), (28, .dup, 1), (29, .getfield 182, 3), (32, .iconst 1, 1), (33, .iadd, 1), (34, .putfield 182, 3), (37, .iinc 2 1, 3), (40, .goto (-38), 3), (43, .iconst 1, 1), (44, .ireturn, 1)]
theorem xo187_0 : x_cOk prog_14_method_8_code xc187_0 = true := x_cOk_w (by decide +kernel)
def xg187 : Nat → Option (Instr × Nat) := fun pc => x_at2 pc xc187_0
theorem xh187 : x_Good prog_14_method_8_code xg187 := by
  unfold xg187
  exact x_Good_l xo187_0
def xm187 : XM := (⟨"TwoDigitsModel", "text", "(Ljava/lang/String;)Z"⟩, prog_14_method_8_code, 3, some .boolean, 12, 12, 1, 0, 0, false, xg187)
def xc188_0 : List (Nat × Instr × Nat) := [(0, .aload_n 0, 1), (1, .aload_n 0, 1), (2, .getfield 182, 3), (5, .putfield 185, 3), (8, .iconst 0, 1), (9, .ireturn, 1)]
theorem xo188_0 : x_cOk prog_14_method_7_code xc188_0 = true := x_cOk_w (by decide +kernel)
def xg188 : Nat → Option (Instr × Nat) := fun pc => x_at2 pc xc188_0
theorem xh188 : x_Good prog_14_method_7_code xg188 := by
  unfold xg188
  exact x_Good_l xo188_0
def xm188 : XM := (⟨"TwoDigitsModel", "wrongHere", "()Z"⟩, prog_14_method_7_code, 1, some .boolean, 12, 12, 0, 0, 0, false, xg188)
def xc189_0 : List (Nat × Instr × Nat) := [(0, .aload_n 0, 1), (1, .invokevirtual 208, 3), (4, .istore_n 2, 1), (5, .aload_n 0, 1), (6, .getfield 118, 3), (9, .iload_n 1, 1), (10, .aload_n 0, 1), (11, .getfield 205, 3), (14, .iastore, 1), (15, .iload_n 2, 1), (16, .ireturn, 1)]
theorem xo189_0 : x_cOk prog_14_method_11_code xc189_0 = true := x_cOk_w (by decide +kernel)
def xg189 : Nat → Option (Instr × Nat) := fun pc => x_at2 pc xc189_0
theorem xh189 : x_Good prog_14_method_11_code xg189 := by
  unfold xg189
  exact x_Good_l xo189_0
def xm189 : XM := (⟨"TwoDigitsModel", "field", "(I)Z"⟩, prog_14_method_11_code, 3, some .boolean, 12, 12, 1, 0, 0, false, xg189)
def xc190_0 : List (Nat × Instr × Nat) := [(0, .aload_n 0, 1), (1, .invokevirtual 194, 3), (4, .bipush 97, 2), (6, .if_icmp .lt 12, 3), (9, .aload_n 0, 1), (10, .invokevirtual 194, 3), (13, .bipush 102, 2), (15, .if_icmp .le 8, 3), (18, .aload_n 0, 1), (19, .invokevirtual 201, 3), (22, .ireturn, 1), (23, .aload_n 0, 1), (24, .aload_n 0, 1), (25, .invokevirtual 194, 3), (28, .bipush 97, 2), (30, .isub, 1), (31, .putfield 205, 3), (34, .aload_n 0, 1), (35, .dup, 1), (36, .getfield 182, 3), (39, .iconst 1, 1), (40, .iadd, 1), (41, .putfield 182, 3), (44, .iconst 1, 1), (45, .ireturn, 1)]
theorem xo190_0 : x_cOk prog_14_method_9_code xc190_0 = true := x_cOk_w (by decide +kernel)
def xg190 : Nat → Option (Instr × Nat) := fun pc => x_at2 pc xc190_0
theorem xh190 : x_Good prog_14_method_9_code xg190 := by
  unfold xg190
  exact x_Good_l xo190_0
def xm190 : XM := (⟨"TwoDigitsModel", "letter", "()Z"⟩, prog_14_method_9_code, 1, some .boolean, 12, 12, 0, 0, 0, false, xg190)
def xc191_0 : List (Nat × Instr × Nat) := [(0, .aload_n 0, 1), (1, .bipush 7, 2), (3, .ldc 228, 2), (5, .invokevirtual 222, 3), (8, .ifCond .ne 5, 3), (11, .iconst 0, 1), (12, .ireturn, 1), (13, .aload_n 0, 1), (14, .invokevirtual 194, 3), (17, .bipush 60, 2), (19, .if_icmp .eq 17, 3), (22, .aload_n 0, 1), (23, .invokevirtual 194, 3), (26, .bipush 61, 2), (28, .if_icmp .eq 8, 3), (31, .aload_n 0, 1), (32, .invokevirtual 201, 3), (35, .ireturn, 1), (36, .aload_n 0, 1), (37, .getfield 118, 3), (40, .iconst 0, 1), (41, .aload_n 0, 1), (42, .invokevirtual 194, 3), (45, .bipush 60, 2), (47, .if_icmp .ne 8, 3), (50, .bipush 7, 2), (52, .goto 5, 3), (55, .bipush 8, 2), (57, .iastore, 1), (58, .aload_n 0, 1), (59, .dup, 1), (60, .getfield 182, 3), (63, .iconst 1, 1), (64, .iadd, 1), (65, .putfield 182, 3), (68, .aload_n 0, 1), (69, .iconst 2, 1), (70, .invokevirtual 219, 3), (73, .ifCond .eq 24, 3), (76, .aload_n 0, 1), (77, .ldc 226, 2), (79, .invokevirtual 215, 3), (82, .ifCond .eq 15, 3), (85, .aload_n 0, 1), (86, .iconst 2, 1), (87, .invokevirtual 230, 3), (90, .ifCond .eq 7, 3), (93, .iconst 1, 1)]
theorem xo191_0 : x_cOk prog_14_method_15_code xc191_0 = true := x_cOk_w (by decide +kernel)
def xc191_1 : List (Nat × Instr × Nat) := [(94, .goto 4, 3), (97, .iconst 0, 1), (98, .ireturn, 1)]
theorem xo191_1 : x_cOk prog_14_method_15_code xc191_1 = true := x_cOk_w (by decide +kernel)
def xg191 : Nat → Option (Instr × Nat) := fun pc => if pc < 94 then x_at2 pc xc191_0 else x_at2 pc xc191_1
theorem xh191 : x_Good prog_14_method_15_code xg191 := by
  unfold xg191
  exact x_Good_ite (x_Good_l xo191_0) (x_Good_l xo191_1)
def xm191 : XM := (⟨"TwoDigitsModel", "asks", "()Z"⟩, prog_14_method_15_code, 1, some .boolean, 12, 12, 0, 0, 0, false, xg191)
def xc192_0 : List (Nat × Instr × Nat) := [(0, .aload_n 0, 1), (1, .iload_n 1, 1), (2, .invokevirtual 211, 3), (5, .istore_n 2, 1), (6, .aload_n 0, 1), (7, .getfield 118, 3), (10, .iconst 3, 1), (11, .aload_n 0, 1), (12, .getfield 205, 3), (15, .iastore, 1), (16, .iload_n 2, 1), (17, .ireturn, 1)]
theorem xo192_0 : x_cOk prog_14_method_12_code xc192_0 = true := x_cOk_w (by decide +kernel)
def xg192 : Nat → Option (Instr × Nat) := fun pc => x_at2 pc xc192_0
theorem xh192 : x_Good prog_14_method_12_code xg192 := by
  unfold xg192
  exact x_Good_l xo192_0
def xm192 : XM := (⟨"TwoDigitsModel", "told", "(I)Z"⟩, prog_14_method_12_code, 3, some .boolean, 12, 12, 1, 0, 0, false, xg192)
def xc193_0 : List (Nat × Instr × Nat) := [(0, .aload_n 0, 1), (1, .invokevirtual 194, 3), (4, .bipush 48, 2), (6, .if_icmp .lt 12, 3), (9, .aload_n 0, 1), (10, .invokevirtual 194, 3), (13, .bipush 57, 2), (15, .if_icmp .le 8, 3), (18, .aload_n 0, 1), (19, .invokevirtual 201, 3), (22, .ireturn, 1), (23, .aload_n 0, 1), (24, .iconst 0, 1), (25, .putfield 205, 3), (28, .iconst 0, 1), (29, .istore_n 2, 1), (30, .iload_n 2, 1), (31, .iload_n 1, 1), (32, .if_icmp .ge 56, 3), (35, .aload_n 0, 1), (36, .invokevirtual 194, 3), (39, .bipush 48, 2), (41, .if_icmp .lt 47, 3), (44, .aload_n 0, 1), (45, .invokevirtual 194, 3), (48, .bipush 57, 2), (50, .if_icmp .gt 38, 3), (53, .aload_n 0, 1), (54, .bipush 10, 2), (56, .aload_n 0, 1), (57, .getfield 205, 3), (60, .imul, 1), (61, .aload_n 0, 1), (62, .invokevirtual 194, 3), (65, .iadd, 1), (66, .bipush 48, 2), (68, .isub, 1), (69, .putfield 205, 3), (72, .aload_n 0, 1), (73, .dup, 1), (74, .getfield 182, 3), (77, .iconst 1, 1), (78, .iadd, 1), (79, .putfield 182, 3), (82, .iinc 2 1, 3), (85, .goto (-55), 3), (88, .iconst 1, 1), (89, .ireturn, 1)]
theorem xo193_0 : x_cOk prog_14_method_10_code xc193_0 = true := x_cOk_w (by decide +kernel)
def xg193 : Nat → Option (Instr × Nat) := fun pc => x_at2 pc xc193_0
theorem xh193 : x_Good prog_14_method_10_code xg193 := by
  unfold xg193
  exact x_Good_l xo193_0
def xm193 : XM := (⟨"TwoDigitsModel", "number", "(I)Z"⟩, prog_14_method_10_code, 3, some .boolean, 12, 12, 1, 0, 0, false, xg193)
def xc194_0 : List (Nat × Instr × Nat) := [(0, .aload_n 0, 1), (1, .iload_n 1, 1), (2, .aload_n 2, 1), (3, .invokevirtual 222, 3), (6, .ifCond .eq 24, 3), (9, .aload_n 0, 1), (10, .ldc 226, 2), (12, .invokevirtual 215, 3), (15, .ifCond .eq 15, 3), (18, .aload_n 0, 1), (19, .iconst 2, 1), (20, .invokevirtual 219, 3), (23, .ifCond .eq 7, 3), (26, .iconst 1, 1), (27, .goto 4, 3), (30, .iconst 0, 1), (31, .ireturn, 1)]
theorem xo194_0 : x_cOk prog_14_method_14_code xc194_0 = true := x_cOk_w (by decide +kernel)
def xg194 : Nat → Option (Instr × Nat) := fun pc => x_at2 pc xc194_0
theorem xh194 : x_Good prog_14_method_14_code xg194 := by
  unfold xg194
  exact x_Good_l xo194_0
def xm194 : XM := (⟨"TwoDigitsModel", "two", "(ILjava/lang/String;)Z"⟩, prog_14_method_14_code, 3, some .boolean, 12, 12, 2, 0, 0, false, xg194)
def xc195_0 : List (Nat × Instr × Nat) := [(0, .iload_n 1, 1), (1, .invokestatic 271, 3), (4, .ifCond .eq 28, 3), (7, .iload_n 2, 1), (8, .iconst 0, 1), (9, .iconst 2, 1), (10, .invokestatic 175, 3), (13, .ifCond .eq 19, 3), (16, .iload_n 1, 1), (17, .iload_n 2, 1), (18, .invokestatic 274, 3), (21, .ifCond .eq 7, 3), (24, .iconst 1, 1), (25, .goto 8, 3), (28, .iconst 0, 1), (29, .goto 4, 3), (32, .iconst (-1), 1), (33, .ireturn, 1)]
theorem xo195_0 : x_cOk prog_14_method_20_code xc195_0 = true := x_cOk_w (by decide +kernel)
def xg195 : Nat → Option (Instr × Nat) := fun pc => x_at2 pc xc195_0
theorem xh195 : x_Good prog_14_method_20_code xg195 := by
  unfold xg195
  exact x_Good_l xo195_0
def xm195 : XM := (⟨"TwoDigitsModel", "leaps", "(II)I"⟩, prog_14_method_20_code, 3, some .int, 12, 12, 2, 0, 0, false, xg195)
def xc196_0 : List (Nat × Instr × Nat) := [(0, .iload_n 0, 1), (1, .sipush 1900, 3), (4, .sipush 2099, 3), (7, .invokestatic 175, 3), (10, .ireturn, 1)]
theorem xo196_0 : x_cOk prog_14_method_4_code xc196_0 = true := x_cOk_w (by decide +kernel)
def xg196 : Nat → Option (Instr × Nat) := fun pc => x_at2 pc xc196_0
theorem xh196 : x_Good prog_14_method_4_code xg196 := by
  unfold xg196
  exact x_Good_l xo196_0
def xm196 : XM := (⟨"TwoDigitsModel", "isYear", "(I)Z"⟩, prog_14_method_4_code, 1, some .boolean, 12, 12, 1, 0, 0, false, xg196)
def xc197_0 : List (Nat × Instr × Nat) := [(0, .iload_n 0, 1), (1, .iconst 4, 1), (2, .irem, 1), (3, .ifCond .ne 31, 3), (6, .iload_n 1, 1), (7, .ifCond .eq 23, 3), (10, .iload_n 0, 1), (11, .bipush 100, 2), (13, .irem, 1), (14, .ifCond .ne 16, 3), (17, .iload_n 1, 1), (18, .iconst 2, 1), (19, .if_icmp .ne 15, 3), (22, .iload_n 0, 1), (23, .sipush 400, 3), (26, .irem, 1), (27, .ifCond .ne 7, 3), (30, .iconst 1, 1), (31, .goto 4, 3), (34, .iconst 0, 1), (35, .ireturn, 1)]
theorem xo197_0 : x_cOk prog_14_method_19_code xc197_0 = true := x_cOk_w (by decide +kernel)
def xg197 : Nat → Option (Instr × Nat) := fun pc => x_at2 pc xc197_0
theorem xh197 : x_Good prog_14_method_19_code xg197 := by
  unfold xg197
  exact x_Good_l xo197_0
def xm197 : XM := (⟨"TwoDigitsModel", "leapsBy", "(II)Z"⟩, prog_14_method_19_code, 2, some .boolean, 12, 12, 2, 0, 0, false, xg197)
def xc198_0 : List (Nat × Instr × Nat) := [(0, .iload_n 1, 1), (1, .iconst 0, 1), (2, .bipush 99, 2), (4, .invokestatic 175, 3), (7, .ifCond .eq 22, 3), (10, .iload_n 2, 1), (11, .iconst 0, 1), (12, .bipush 100, 2), (14, .invokestatic 175, 3), (17, .ifCond .eq 12, 3), (20, .iload_n 1, 1), (21, .iconst 2, 1), (22, .iload_n 2, 1), (23, .invokestatic 278, 3), (26, .goto 4, 3), (29, .iconst (-1), 1), (30, .ireturn, 1)]
theorem xo198_0 : x_cOk prog_14_method_22_code xc198_0 = true := x_cOk_w (by decide +kernel)
def xg198 : Nat → Option (Instr × Nat) := fun pc => x_at2 pc xc198_0
theorem xh198 : x_Good prog_14_method_22_code xg198 := by
  unfold xg198
  exact x_Good_l xo198_0
def xm198 : XM := (⟨"TwoDigitsModel", "meant", "(II)I"⟩, prog_14_method_22_code, 3, some .int, 12, 12, 2, 0, 0, false, xg198)
def xc199_0 : List (Nat × Instr × Nat) := [(0, .iload_n 1, 1), (1, .iconst 2, 1), (2, .if_icmp .ne 28, 3), (5, .iload_n 2, 1), (6, .ifCond .lt 24, 3), (9, .iload_n 0, 1), (10, .iload_n 2, 1), (11, .if_icmp .lt 11, 3), (14, .sipush 1900, 3), (17, .iload_n 0, 1), (18, .iadd, 1), (19, .goto 12, 3), (22, .sipush 2000, 3), (25, .iload_n 0, 1), (26, .iadd, 1), (27, .goto 4, 3), (30, .iload_n 0, 1), (31, .ireturn, 1)]
theorem xo199_0 : x_cOk prog_14_method_21_code xc199_0 = true := x_cOk_w (by decide +kernel)
def xg199 : Nat → Option (Instr × Nat) := fun pc => x_at2 pc xc199_0
theorem xh199 : x_Good prog_14_method_21_code xg199 := by
  unfold xg199
  exact x_Good_l xo199_0
def xm199 : XM := (⟨"TwoDigitsModel", "meantBy", "(III)I"⟩, prog_14_method_21_code, 3, some .int, 12, 12, 3, 0, 0, false, xg199)
def xc200_0 : List (Nat × Instr × Nat) := [(0, .aload_n 0, 1), (1, .iload_n 1, 1), (2, .invokevirtual 326, 3), (5, .ifCond .ne 5, 3), (8, .iconst (-1), 1), (9, .ireturn, 1), (10, .iload_n 2, 1), (11, .invokestatic 271, 3), (14, .ifCond .ne 6, 3), (17, .bipush (-2), 2), (19, .ireturn, 1), (20, .aload_n 0, 1), (21, .iload_n 1, 1), (22, .aload_n 0, 1), (23, .iload_n 1, 1), (24, .iload_n 2, 1), (25, .invokevirtual 329, 3), (28, .invokevirtual 331, 3), (31, .aload_n 0, 1), (32, .getfield 60, 3), (35, .iload_n 1, 1), (36, .aaload, 1), (37, .iconst 0, 1), (38, .iaload, 1), (39, .ireturn, 1)]
theorem xo200_0 : x_cOk prog_14_method_34_code xc200_0 = true := x_cOk_w (by decide +kernel)
def xg200 : Nat → Option (Instr × Nat) := fun pc => x_at2 pc xc200_0
theorem xh200 : x_Good prog_14_method_34_code xg200 := by
  unfold xg200
  exact x_Good_l xo200_0
def xm200 : XM := (⟨"TwoDigitsModel", "run", "(II)I"⟩, prog_14_method_34_code, 3, some .int, 12, 12, 2, 0, 0, false, xg200)
def xc201_0 : List (Nat × Instr × Nat) := [(0, .iload_n 1, 1), (1, .iconst 0, 1), (2, .aload_n 0, 1), (3, .getfield 171, 3), (6, .iconst 1, 1), (7, .isub, 1), (8, .invokestatic 175, 3), (11, .ireturn, 1)]
theorem xo201_0 : x_cOk prog_14_method_3_code xc201_0 = true := x_cOk_w (by decide +kernel)
def xg201 : Nat → Option (Instr × Nat) := fun pc => x_at2 pc xc201_0
theorem xh201 : x_Good prog_14_method_3_code xg201 := by
  unfold xg201
  exact x_Good_l xo201_0
def xm201 : XM := (⟨"TwoDigitsModel", "isProgram", "(I)Z"⟩, prog_14_method_3_code, 2, some .boolean, 12, 12, 1, 0, 0, false, xg201)
def xc202_0 : List (Nat × Instr × Nat) := [(0, .aload_n 0, 1), (1, .iload_n 1, 1), (2, .iload_n 2, 1), (3, .invokevirtual 315, 3), (6, .aload_n 0, 1), (7, .getfield 136, 3), (10, .iconst 0, 1), (11, .aaload, 1), (12, .iconst 0, 1), (13, .aload_n 0, 1), (14, .getfield 48, 3), (17, .iload_n 1, 1), (18, .aaload, 1), (19, .iconst 0, 1), (20, .bipush 12, 2), (22, .invokestatic 262, 3), (25, .aload_n 0, 1), (26, .getfield 136, 3), (29, .iconst 1, 1), (30, .aaload, 1), (31, .iconst 0, 1), (32, .aload_n 0, 1), (33, .getfield 54, 3), (36, .iload_n 1, 1), (37, .aaload, 1), (38, .iconst 0, 1), (39, .bipush 12, 2), (41, .invokestatic 262, 3), (44, .aload_n 0, 1), (45, .getfield 51, 3), (48, .iload_n 1, 1), (49, .aload_n 0, 1), (50, .getfield 139, 3), (53, .iconst 0, 1), (54, .iaload, 1), (55, .iastore, 1), (56, .aload_n 0, 1), (57, .getfield 57, 3), (60, .iload_n 1, 1), (61, .aload_n 0, 1), (62, .getfield 139, 3), (65, .iconst 1, 1), (66, .iaload, 1), (67, .iastore, 1), (68, .aload_n 0, 1), (69, .getfield 133, 3), (72, .iconst 0, 1), (73, .iaload, 1)]
theorem xo202_0 : x_cOk prog_14_method_32_code xc202_0 = true := x_cOk_w (by decide +kernel)
def xc202_1 : List (Nat × Instr × Nat) := [(74, .aload_n 0, 1), (75, .getfield 133, 3), (78, .iconst 1, 1), (79, .iaload, 1), (80, .if_icmp .ne 33, 3), (83, .aload_n 0, 1), (84, .getfield 48, 3), (87, .iload_n 1, 1), (88, .aaload, 1), (89, .aload_n 0, 1), (90, .getfield 51, 3), (93, .iload_n 1, 1), (94, .iaload, 1), (95, .aload_n 0, 1), (96, .getfield 54, 3), (99, .iload_n 1, 1), (100, .aaload, 1), (101, .aload_n 0, 1), (102, .getfield 57, 3), (105, .iload_n 1, 1), (106, .iaload, 1), (107, .invokestatic 319, 3), (110, .ifCond .ne 7, 3), (113, .iconst 1, 1), (114, .goto 4, 3), (117, .iconst 0, 1), (118, .ireturn, 1)]
theorem xo202_1 : x_cOk prog_14_method_32_code xc202_1 = true := x_cOk_w (by decide +kernel)
def xg202 : Nat → Option (Instr × Nat) := fun pc => if pc < 74 then x_at2 pc xc202_0 else x_at2 pc xc202_1
theorem xh202 : x_Good prog_14_method_32_code xg202 := by
  unfold xg202
  exact x_Good_ite (x_Good_l xo202_0) (x_Good_l xo202_1)
def xm202 : XM := (⟨"TwoDigitsModel", "runs", "(II)Z"⟩, prog_14_method_32_code, 3, some .boolean, 12, 12, 2, 0, 0, false, xg202)
def xc203_0 : List (Nat × Instr × Nat) := [(0, .aload_n 0, 1), (1, .iconst 0, 1), (2, .invokevirtual 304, 3), (5, .aload_n 0, 1), (6, .iconst 1, 1), (7, .invokevirtual 304, 3), (10, .aload_n 0, 1), (11, .iconst (-1), 1), (12, .putfield 308, 3), (15, .iconst 1, 1), (16, .istore_n 3, 1), (17, .aload_n 0, 1), (18, .getfield 133, 3), (21, .iconst 0, 1), (22, .iaload, 1), (23, .ifCond .lt 12, 3), (26, .aload_n 0, 1), (27, .getfield 133, 3), (30, .iconst 1, 1), (31, .iaload, 1), (32, .ifCond .ge 192, 3), (35, .aload_n 0, 1), (36, .getfield 124, 3), (39, .iconst 0, 1), (40, .iaload, 1), (41, .istore 4, 2), (43, .iload_n 3, 1), (44, .ifCond .eq 144, 3), (47, .aload_n 0, 1), (48, .getfield 15, 3), (51, .iload_n 1, 1), (52, .aaload, 1), (53, .iconst 4, 1), (54, .iload 4, 2), (56, .imul, 1), (57, .iaload, 1), (58, .iconst 2, 1), (59, .if_icmp .ne 7, 3), (62, .iconst 1, 1), (63, .goto 4, 3), (66, .iconst 0, 1), (67, .istore 5, 2), (69, .aload_n 0, 1), (70, .iload_n 1, 1), (71, .iload_n 2, 1), (72, .iconst 0, 1), (73, .invokevirtual 311, 3), (76, .aload_n 0, 1)]
theorem xo203_0 : x_cOk prog_14_method_30_code xc203_0 = true := x_cOk_w (by decide +kernel)
def xc203_1 : List (Nat × Instr × Nat) := [(77, .iload_n 1, 1), (78, .iload_n 2, 1), (79, .iconst 1, 1), (80, .invokevirtual 311, 3), (83, .aload_n 0, 1), (84, .getfield 133, 3), (87, .iconst 0, 1), (88, .iaload, 1), (89, .aload_n 0, 1), (90, .getfield 133, 3), (93, .iconst 1, 1), (94, .iaload, 1), (95, .if_icmp .ne 57, 3), (98, .aload_n 0, 1), (99, .getfield 133, 3), (102, .iconst 0, 1), (103, .iaload, 1), (104, .ifCond .ge 18, 3), (107, .aload_n 0, 1), (108, .getfield 124, 3), (111, .iconst 0, 1), (112, .iaload, 1), (113, .aload_n 0, 1), (114, .getfield 124, 3), (117, .iconst 1, 1), (118, .iaload, 1), (119, .if_icmp .ne 33, 3), (122, .iload 5, 2), (124, .ifCond .eq 32, 3), (127, .aload_n 0, 1), (128, .getfield 133, 3), (131, .iconst 0, 1), (132, .iaload, 1), (133, .iconst 1, 1), (134, .if_icmp .eq 22, 3), (137, .aload_n 0, 1), (138, .getfield 142, 3), (141, .iconst 0, 1), (142, .iaload, 1), (143, .aload_n 0, 1), (144, .getfield 142, 3), (147, .iconst 1, 1), (148, .iaload, 1), (149, .if_icmp .eq 7, 3), (152, .iconst 1, 1), (153, .goto 4, 3), (156, .iconst 0, 1), (157, .istore 6, 2)]
theorem xo203_1 : x_cOk prog_14_method_30_code xc203_1 = true := x_cOk_w (by decide +kernel)
def xc203_2 : List (Nat × Instr × Nat) := [(159, .aload_n 0, 1), (160, .iload 6, 2), (162, .ifCond .eq 8, 3), (165, .iload 4, 2), (167, .goto 4, 3), (170, .iconst (-1), 1), (171, .putfield 308, 3), (174, .iload 6, 2), (176, .ifCond .ne 7, 3), (179, .iconst 1, 1), (180, .goto 4, 3), (183, .iconst 0, 1), (184, .istore_n 3, 1), (185, .goto (-168), 3), (188, .iconst 0, 1), (189, .istore 5, 2), (191, .iload 5, 2), (193, .iconst 2, 1), (194, .if_icmp .ge 27, 3), (197, .aload_n 0, 1), (198, .getfield 133, 3), (201, .iload 5, 2), (203, .iaload, 1), (204, .ifCond .ge 11, 3), (207, .aload_n 0, 1), (208, .iload_n 1, 1), (209, .iload_n 2, 1), (210, .iload 5, 2), (212, .invokevirtual 311, 3), (215, .iinc 5 1, 3), (218, .goto (-27), 3), (221, .goto (-204), 3), (224, .return_, 1)]
theorem xo203_2 : x_cOk prog_14_method_30_code xc203_2 = true := x_cOk_w (by decide +kernel)
def xg203 : Nat → Option (Instr × Nat) := fun pc => if pc < 77 then x_at2 pc xc203_0 else if pc < 159 then x_at2 pc xc203_1 else x_at2 pc xc203_2
theorem xh203 : x_Good prog_14_method_30_code xg203 := by
  unfold xg203
  exact x_Good_ite (x_Good_l xo203_0) (x_Good_ite (x_Good_l xo203_1) (x_Good_l xo203_2))
def xm203 : XM := (⟨"TwoDigitsModel", "both", "(II)V"⟩, prog_14_method_30_code, 7, none, 12, 12, 2, 0, 0, false, xg203)
def xc204_0 : List (Nat × Instr × Nat) := [(0, .iconst 0, 1), (1, .istore_n 2, 1), (2, .iload_n 2, 1), (3, .bipush 6, 2), (5, .if_icmp .ge 18, 3), (8, .aload_n 0, 1), (9, .getfield 121, 3), (12, .iload_n 1, 1), (13, .aaload, 1), (14, .iload_n 2, 1), (15, .iconst 0, 1), (16, .iastore, 1), (17, .iinc 2 1, 3), (20, .goto (-18), 3), (23, .aload_n 0, 1), (24, .getfield 124, 3), (27, .iload_n 1, 1), (28, .iconst 0, 1), (29, .iastore, 1), (30, .aload_n 0, 1), (31, .getfield 127, 3), (34, .iload_n 1, 1), (35, .iconst 0, 1), (36, .iastore, 1), (37, .aload_n 0, 1), (38, .getfield 130, 3), (41, .iload_n 1, 1), (42, .iconst 0, 1), (43, .iastore, 1), (44, .aload_n 0, 1), (45, .getfield 133, 3), (48, .iload_n 1, 1), (49, .iconst (-1), 1), (50, .iastore, 1), (51, .aload_n 0, 1), (52, .getfield 139, 3), (55, .iload_n 1, 1), (56, .iconst 0, 1), (57, .iastore, 1), (58, .return_, 1)]
theorem xo204_0 : x_cOk prog_14_method_29_code xc204_0 = true := x_cOk_w (by decide +kernel)
def xg204 : Nat → Option (Instr × Nat) := fun pc => x_at2 pc xc204_0
theorem xh204 : x_Good prog_14_method_29_code xg204 := by
  unfold xg204
  exact x_Good_l xo204_0
def xm204 : XM := (⟨"TwoDigitsModel", "begin", "(I)V"⟩, prog_14_method_29_code, 3, none, 12, 12, 1, 0, 0, false, xg204)
def xc205_0 : List (Nat × Instr × Nat) := [(0, .aload_n 0, 1), (1, .getfield 15, 3), (4, .iload_n 1, 1), (5, .aaload, 1), (6, .astore 4, 2), (8, .iconst 4, 1), (9, .aload_n 0, 1), (10, .getfield 124, 3), (13, .iload_n 3, 1), (14, .iaload, 1), (15, .imul, 1), (16, .istore 5, 2), (18, .aload_n 0, 1), (19, .getfield 121, 3), (22, .iload_n 3, 1), (23, .aaload, 1), (24, .astore 6, 2), (26, .aload_n 0, 1), (27, .getfield 124, 3), (30, .iload_n 3, 1), (31, .iaload, 1), (32, .iconst 1, 1), (33, .iadd, 1), (34, .istore 7, 2), (36, .aload_n 0, 1), (37, .getfield 130, 3), (40, .iload_n 3, 1), (41, .dup2, 1), (42, .iaload, 1), (43, .iconst 1, 1), (44, .iadd, 1), (45, .iastore, 1), (46, .aload 4, 2), (48, .iload 5, 2), (50, .iaload, 1), (51, .tableswitch 522 0 10 #[57, 84, 155, 222, 255, 291, 338, 385, 431, 477, 510], 57), (108, .aload 6, 2), (110, .aload 4, 2), (112, .iload 5, 2), (114, .iconst 1, 1), (115, .iadd, 1), (116, .iaload, 1), (117, .aload_n 0, 1), (118, .iload_n 1, 1), (119, .aload 4, 2), (121, .iload 5, 2), (123, .iconst 1, 1), (124, .iadd, 1)]
theorem xo205_0 : x_cOk prog_14_method_28_code xc205_0 = true := x_cOk_w (by decide +kernel)
def xc205_1 : List (Nat × Instr × Nat) := [(125, .iaload, 1), (126, .iload_n 2, 1), (127, .iload_n 3, 1), (128, .invokevirtual 291, 3), (131, .iastore, 1), (132, .goto 445, 3), (135, .aload_n 0, 1), (136, .getfield 127, 3), (139, .iload_n 3, 1), (140, .iaload, 1), (141, .aload_n 0, 1), (142, .iload_n 1, 1), (143, .iload_n 3, 1), (144, .invokevirtual 295, 3), (147, .if_icmp .ne 11, 3), (150, .aload_n 0, 1), (151, .getfield 133, 3), (154, .iload_n 3, 1), (155, .iconst 1, 1), (156, .iastore, 1), (157, .return_, 1), (158, .aload 6, 2), (160, .aload 4, 2), (162, .iload 5, 2), (164, .iconst 1, 1), (165, .iadd, 1), (166, .iaload, 1), (167, .aload_n 0, 1), (168, .iload_n 1, 1), (169, .aload 4, 2), (171, .iload 5, 2), (173, .iconst 1, 1), (174, .iadd, 1), (175, .iaload, 1), (176, .aload_n 0, 1), (177, .iload_n 1, 1), (178, .aload_n 0, 1), (179, .getfield 127, 3), (182, .iload_n 3, 1), (183, .iaload, 1), (184, .iload_n 3, 1), (185, .invokevirtual 298, 3), (188, .iload_n 3, 1), (189, .invokevirtual 291, 3), (192, .iastore, 1), (193, .aload_n 0, 1), (194, .getfield 127, 3), (197, .iload_n 3, 1)]
theorem xo205_1 : x_cOk prog_14_method_28_code xc205_1 = true := x_cOk_w (by decide +kernel)
def xc205_2 : List (Nat × Instr × Nat) := [(198, .dup2, 1), (199, .iaload, 1), (200, .iconst 1, 1), (201, .iadd, 1), (202, .iastore, 1), (203, .goto 374, 3), (206, .aload_n 0, 1), (207, .getfield 139, 3), (210, .iload_n 3, 1), (211, .iaload, 1), (212, .bipush 12, 2), (214, .if_icmp .ne 11, 3), (217, .aload_n 0, 1), (218, .getfield 133, 3), (221, .iload_n 3, 1), (222, .iconst 1, 1), (223, .iastore, 1), (224, .return_, 1), (225, .aload_n 0, 1), (226, .getfield 142, 3), (229, .iload_n 3, 1), (230, .aload 6, 2), (232, .aload 4, 2), (234, .iload 5, 2), (236, .iconst 1, 1), (237, .iadd, 1), (238, .iaload, 1), (239, .iaload, 1), (240, .iastore, 1), (241, .aload_n 0, 1), (242, .getfield 136, 3), (245, .iload_n 3, 1), (246, .aaload, 1), (247, .aload_n 0, 1), (248, .getfield 139, 3), (251, .iload_n 3, 1), (252, .iaload, 1), (253, .aload_n 0, 1), (254, .getfield 142, 3), (257, .iload_n 3, 1), (258, .iaload, 1), (259, .iastore, 1), (260, .aload_n 0, 1), (261, .getfield 139, 3), (264, .iload_n 3, 1), (265, .dup2, 1), (266, .iaload, 1), (267, .iconst 1, 1)]
theorem xo205_2 : x_cOk prog_14_method_28_code xc205_2 = true := x_cOk_w (by decide +kernel)
def xc205_3 : List (Nat × Instr × Nat) := [(268, .iadd, 1), (269, .iastore, 1), (270, .goto 307, 3), (273, .aload 6, 2), (275, .aload 4, 2), (277, .iload 5, 2), (279, .iconst 1, 1), (280, .iadd, 1), (281, .iaload, 1), (282, .aload_n 0, 1), (283, .iload_n 1, 1), (284, .aload 4, 2), (286, .iload 5, 2), (288, .iconst 1, 1), (289, .iadd, 1), (290, .iaload, 1), (291, .aload 4, 2), (293, .iload 5, 2), (295, .iconst 3, 1), (296, .iadd, 1), (297, .iaload, 1), (298, .iload_n 3, 1), (299, .invokevirtual 291, 3), (302, .iastore, 1), (303, .goto 274, 3), (306, .aload 6, 2), (308, .aload 4, 2), (310, .iload 5, 2), (312, .iconst 1, 1), (313, .iadd, 1), (314, .iaload, 1), (315, .aload_n 0, 1), (316, .iload_n 1, 1), (317, .aload 4, 2), (319, .iload 5, 2), (321, .iconst 1, 1), (322, .iadd, 1), (323, .iaload, 1), (324, .aload 6, 2), (326, .aload 4, 2), (328, .iload 5, 2), (330, .iconst 2, 1), (331, .iadd, 1), (332, .iaload, 1), (333, .iaload, 1), (334, .iload_n 3, 1), (335, .invokevirtual 291, 3), (338, .iastore, 1)]
theorem xo205_3 : x_cOk prog_14_method_28_code xc205_3 = true := x_cOk_w (by decide +kernel)
def xc205_4 : List (Nat × Instr × Nat) := [(339, .goto 238, 3), (342, .aload 6, 2), (344, .aload 4, 2), (346, .iload 5, 2), (348, .iconst 1, 1), (349, .iadd, 1), (350, .iaload, 1), (351, .aload_n 0, 1), (352, .iload_n 1, 1), (353, .aload 4, 2), (355, .iload 5, 2), (357, .iconst 1, 1), (358, .iadd, 1), (359, .iaload, 1), (360, .aload 6, 2), (362, .aload 4, 2), (364, .iload 5, 2), (366, .iconst 1, 1), (367, .iadd, 1), (368, .iaload, 1), (369, .iaload, 1), (370, .aload 6, 2), (372, .aload 4, 2), (374, .iload 5, 2), (376, .iconst 2, 1), (377, .iadd, 1), (378, .iaload, 1), (379, .iaload, 1), (380, .iadd, 1), (381, .iload_n 3, 1), (382, .invokevirtual 291, 3), (385, .iastore, 1), (386, .goto 191, 3), (389, .aload 6, 2), (391, .aload 4, 2), (393, .iload 5, 2), (395, .iconst 1, 1), (396, .iadd, 1), (397, .iaload, 1), (398, .aload_n 0, 1), (399, .iload_n 1, 1), (400, .aload 4, 2), (402, .iload 5, 2), (404, .iconst 1, 1), (405, .iadd, 1), (406, .iaload, 1), (407, .aload 6, 2), (409, .aload 4, 2)]
theorem xo205_4 : x_cOk prog_14_method_28_code xc205_4 = true := x_cOk_w (by decide +kernel)
def xc205_5 : List (Nat × Instr × Nat) := [(411, .iload 5, 2), (413, .iconst 1, 1), (414, .iadd, 1), (415, .iaload, 1), (416, .iaload, 1), (417, .aload 6, 2), (419, .aload 4, 2), (421, .iload 5, 2), (423, .iconst 2, 1), (424, .iadd, 1), (425, .iaload, 1), (426, .iaload, 1), (427, .isub, 1), (428, .iload_n 3, 1), (429, .invokevirtual 291, 3), (432, .iastore, 1), (433, .goto 144, 3), (436, .aload_n 0, 1), (437, .iload_n 1, 1), (438, .aload 4, 2), (440, .iload 5, 2), (442, .iconst 1, 1), (443, .iadd, 1), (444, .iaload, 1), (445, .iload_n 3, 1), (446, .invokevirtual 288, 3), (449, .aload_n 0, 1), (450, .iload_n 1, 1), (451, .aload 4, 2), (453, .iload 5, 2), (455, .iconst 2, 1), (456, .iadd, 1), (457, .iaload, 1), (458, .iload_n 3, 1), (459, .invokevirtual 288, 3), (462, .if_icmp .ge 13, 3), (465, .aload 4, 2), (467, .iload 5, 2), (469, .iconst 3, 1), (470, .iadd, 1), (471, .iaload, 1), (472, .goto 5, 3), (475, .iload 7, 2), (477, .istore 7, 2), (479, .goto 98, 3), (482, .aload_n 0, 1), (483, .iload_n 1, 1), (484, .aload 4, 2)]
theorem xo205_5 : x_cOk prog_14_method_28_code xc205_5 = true := x_cOk_w (by decide +kernel)
def xc205_6 : List (Nat × Instr × Nat) := [(486, .iload 5, 2), (488, .iconst 1, 1), (489, .iadd, 1), (490, .iaload, 1), (491, .iload_n 3, 1), (492, .invokevirtual 288, 3), (495, .aload_n 0, 1), (496, .iload_n 1, 1), (497, .aload 4, 2), (499, .iload 5, 2), (501, .iconst 2, 1), (502, .iadd, 1), (503, .iaload, 1), (504, .iload_n 3, 1), (505, .invokevirtual 288, 3), (508, .if_icmp .ne 13, 3), (511, .aload 4, 2), (513, .iload 5, 2), (515, .iconst 3, 1), (516, .iadd, 1), (517, .iaload, 1), (518, .goto 5, 3), (521, .iload 7, 2), (523, .istore 7, 2), (525, .goto 52, 3), (528, .aload_n 0, 1), (529, .iload_n 1, 1), (530, .aload 4, 2), (532, .iload 5, 2), (534, .iconst 1, 1), (535, .iadd, 1), (536, .iaload, 1), (537, .iload_n 3, 1), (538, .invokevirtual 301, 3), (541, .ifCond .eq 13, 3), (544, .aload 4, 2), (546, .iload 5, 2), (548, .iconst 3, 1), (549, .iadd, 1), (550, .iaload, 1), (551, .goto 5, 3), (554, .iload 7, 2), (556, .istore 7, 2), (558, .goto 19, 3), (561, .aload 4, 2), (563, .iload 5, 2), (565, .iconst 3, 1), (566, .iadd, 1)]
theorem xo205_6 : x_cOk prog_14_method_28_code xc205_6 = true := x_cOk_w (by decide +kernel)
def xc205_7 : List (Nat × Instr × Nat) := [(567, .iaload, 1), (568, .istore 7, 2), (570, .goto 7, 3), (573, .bipush 12, 2), (575, .istore 7, 2), (577, .aload_n 0, 1), (578, .getfield 124, 3), (581, .iload_n 3, 1), (582, .iload 7, 2), (584, .iastore, 1), (585, .iload 7, 2), (587, .aload_n 0, 1), (588, .getfield 9, 3), (591, .iload_n 1, 1), (592, .iaload, 1), (593, .if_icmp .lt 13, 3), (596, .aload_n 0, 1), (597, .getfield 133, 3), (600, .iload_n 3, 1), (601, .iconst 0, 1), (602, .iastore, 1), (603, .goto 22, 3), (606, .aload_n 0, 1), (607, .getfield 130, 3), (610, .iload_n 3, 1), (611, .iaload, 1), (612, .sipush 150, 3), (615, .if_icmp .ne 10, 3), (618, .aload_n 0, 1), (619, .getfield 133, 3), (622, .iload_n 3, 1), (623, .iconst 2, 1), (624, .iastore, 1), (625, .return_, 1)]
theorem xo205_7 : x_cOk prog_14_method_28_code xc205_7 = true := x_cOk_w (by decide +kernel)
def xg205 : Nat → Option (Instr × Nat) := fun pc => if pc < 125 then x_at2 pc xc205_0 else if pc < 198 then x_at2 pc xc205_1 else if pc < 268 then x_at2 pc xc205_2 else if pc < 339 then x_at2 pc xc205_3 else if pc < 411 then x_at2 pc xc205_4 else if pc < 486 then x_at2 pc xc205_5 else if pc < 567 then x_at2 pc xc205_6 else x_at2 pc xc205_7
theorem xh205 : x_Good prog_14_method_28_code xg205 := by
  unfold xg205
  exact x_Good_ite (x_Good_l xo205_0) (x_Good_ite (x_Good_l xo205_1) (x_Good_ite (x_Good_l xo205_2) (x_Good_ite (x_Good_l xo205_3) (x_Good_ite (x_Good_l xo205_4) (x_Good_ite (x_Good_l xo205_5) (x_Good_ite (x_Good_l xo205_6) (x_Good_l xo205_7)))))))
def xm205 : XM := (⟨"TwoDigitsModel", "step", "(III)V"⟩, prog_14_method_28_code, 8, none, 12, 12, 3, 0, 0, false, xg205)
def xc206_0 : List (Nat × Instr × Nat) := [(0, .iload 4, 2), (2, .iconst 1, 1), (3, .if_icmp .ne 7, 3), (6, .iload_n 3, 1), (7, .goto 27, 3), (10, .iload_n 3, 1), (11, .aload_n 0, 1), (12, .getfield 18, 3), (15, .iload_n 1, 1), (16, .aaload, 1), (17, .iload_n 2, 1), (18, .iaload, 1), (19, .iconst 2, 1), (20, .if_icmp .ne 8, 3), (23, .bipush 100, 2), (25, .goto 6, 3), (28, .sipush 10000, 3), (31, .invokestatic 282, 3), (34, .ireturn, 1)]
theorem xo206_0 : x_cOk prog_14_method_23_code xc206_0 = true := x_cOk_w (by decide +kernel)
def xg206 : Nat → Option (Instr × Nat) := fun pc => x_at2 pc xc206_0
theorem xh206 : x_Good prog_14_method_23_code xg206 := by
  unfold xg206
  exact x_Good_l xo206_0
def xm206 : XM := (⟨"TwoDigitsModel", "kept", "(IIII)I"⟩, prog_14_method_23_code, 5, some .int, 12, 12, 4, 0, 0, false, xg206)
def xc207_0 : List (Nat × Instr × Nat) := [(0, .aload_n 0, 1), (1, .getfield 27, 3), (4, .iload_n 1, 1), (5, .iaload, 1), (6, .ifCond .ge 12, 3), (9, .aload_n 0, 1), (10, .getfield 45, 3), (13, .iload_n 1, 1), (14, .iaload, 1), (15, .goto 33, 3), (18, .iload_n 2, 1), (19, .iconst 1, 1), (20, .if_icmp .ne 17, 3), (23, .aload_n 0, 1), (24, .getfield 57, 3), (27, .aload_n 0, 1), (28, .getfield 27, 3), (31, .iload_n 1, 1), (32, .iaload, 1), (33, .iaload, 1), (34, .goto 14, 3), (37, .aload_n 0, 1), (38, .getfield 51, 3), (41, .aload_n 0, 1), (42, .getfield 27, 3), (45, .iload_n 1, 1), (46, .iaload, 1), (47, .iaload, 1), (48, .ireturn, 1)]
theorem xo207_0 : x_cOk prog_14_method_25_code xc207_0 = true := x_cOk_w (by decide +kernel)
def xg207 : Nat → Option (Instr × Nat) := fun pc => x_at2 pc xc207_0
theorem xh207 : x_Good prog_14_method_25_code xg207 := by
  unfold xg207
  exact x_Good_l xo207_0
def xm207 : XM := (⟨"TwoDigitsModel", "inputs", "(II)I"⟩, prog_14_method_25_code, 3, some .int, 12, 12, 2, 0, 0, false, xg207)
def xc208_0 : List (Nat × Instr × Nat) := [(0, .aload_n 0, 1), (1, .getfield 27, 3), (4, .iload_n 1, 1), (5, .iaload, 1), (6, .ifCond .ge 14, 3), (9, .aload_n 0, 1), (10, .getfield 42, 3), (13, .iload_n 1, 1), (14, .aaload, 1), (15, .iload_n 2, 1), (16, .iaload, 1), (17, .goto 37, 3), (20, .iload_n 3, 1), (21, .iconst 1, 1), (22, .if_icmp .ne 19, 3), (25, .aload_n 0, 1), (26, .getfield 54, 3), (29, .aload_n 0, 1), (30, .getfield 27, 3), (33, .iload_n 1, 1), (34, .iaload, 1), (35, .aaload, 1), (36, .iload_n 2, 1), (37, .iaload, 1), (38, .goto 16, 3), (41, .aload_n 0, 1), (42, .getfield 48, 3), (45, .aload_n 0, 1), (46, .getfield 27, 3), (49, .iload_n 1, 1), (50, .iaload, 1), (51, .aaload, 1), (52, .iload_n 2, 1), (53, .iaload, 1), (54, .istore 4, 2), (56, .aload_n 0, 1), (57, .getfield 27, 3), (60, .iload_n 1, 1), (61, .iaload, 1), (62, .ifCond .ge 13, 3), (65, .iload 4, 2), (67, .iconst (-1), 1), (68, .if_icmp .ne 7, 3), (71, .iconst 0, 1), (72, .goto 5, 3), (75, .iload 4, 2), (77, .ireturn, 1)]
theorem xo208_0 : x_cOk prog_14_method_26_code xc208_0 = true := x_cOk_w (by decide +kernel)
def xg208 : Nat → Option (Instr × Nat) := fun pc => x_at2 pc xc208_0
theorem xh208 : x_Good prog_14_method_26_code xg208 := by
  unfold xg208
  exact x_Good_l xo208_0
def xm208 : XM := (⟨"TwoDigitsModel", "inputAt", "(III)I"⟩, prog_14_method_26_code, 5, some .int, 12, 12, 3, 0, 0, false, xg208)
end XCode5
