/-! Instructions, by program: part 3. -/
noncomputable section XCode3
def xc94_0 : List (Nat × Instr × Nat) := [(0, .aload_n 0, 1), (1, .getfield 127, 3), (4, .getfield 167, 3), (7, .iload_n 2, 1), (8, .iaload, 1), (9, .iconst 2, 1), (10, .if_icmp .ne 19, 3), (13, .aload_n 0, 1), (14, .getfield 133, 3), (17, .iload_n 1, 1), (18, .iload_n 2, 1), (19, .invokevirtual 261, 3), (22, .ifCond .eq 7, 3), (25, .iconst 1, 1), (26, .goto 4, 3), (29, .iconst 0, 1), (30, .ireturn, 1)]
theorem xo94_0 : x_cOk prog_1_method_20_code xc94_0 = true := x_cOk_w (by decide +kernel)
def xg94 : Nat → Option (Instr × Nat) := fun pc => x_at2 pc xc94_0
theorem xh94 : x_Good prog_1_method_20_code xg94 := by
  unfold xg94
  exact x_Good_l xo94_0
def xm94 : XM := (⟨"TwoDigits", "isTwoDigitField", "(LTwoDigits$Program;II)Z"⟩, prog_1_method_20_code, 3, some .boolean, 0, 0, 3, 0, 0, false, xg94)
def xc95_0 : List (Nat × Instr × Nat) := [(0, .iconst 0, 1), (1, .istore_n 3, 1), (2, .iload_n 3, 1), (3, .aload_n 0, 1), (4, .getfield 44, 3), (7, .if_icmp .ge 31, 3), (10, .aload_n 0, 1), (11, .getfield 9, 3), (14, .iload_n 3, 1), (15, .iaload, 1), (16, .iload_n 1, 1), (17, .if_icmp .ne 15, 3), (20, .aload_n 0, 1), (21, .getfield 13, 3), (24, .iload_n 3, 1), (25, .iaload, 1), (26, .iload_n 2, 1), (27, .if_icmp .ne 5, 3), (30, .iconst 1, 1), (31, .ireturn, 1), (32, .iinc 3 1, 3), (35, .goto (-33), 3), (38, .iconst 0, 1), (39, .ireturn, 1)]
theorem xo95_0 : x_cOk prog_3_method_4_code xc95_0 = true := x_cOk_w (by decide +kernel)
def xg95 : Nat → Option (Instr × Nat) := fun pc => x_at2 pc xc95_0
theorem xh95 : x_Good prog_3_method_4_code xg95 := by
  unfold xg95
  exact x_Good_l xo95_0
def xm95 : XM := (⟨"TwoDigits$Code", "uses", "(II)Z"⟩, prog_3_method_4_code, 4, some .boolean, 2, 2, 2, 0, 0, false, xg95)
def xc96_0 : List (Nat × Instr × Nat) := [(0, .aload_n 0, 1), (1, .iload_n 1, 1), (2, .invokevirtual 117, 3), (5, .astore 5, 2), (7, .aload 5, 2), (9, .ifnull 20, 3), (12, .iload_n 2, 1), (13, .invokestatic 264, 3), (16, .ifCond .eq 13, 3), (19, .iload 4, 2), (21, .iconst 0, 1), (22, .iconst 3, 1), (23, .invokestatic 178, 3), (26, .ifCond .ne 5, 3), (29, .iconst (-1), 1), (30, .ireturn, 1), (31, .iload_n 3, 1), (32, .invokestatic 267, 3), (35, .ifCond .ne 6, 3), (38, .bipush (-2), 2), (40, .ireturn, 1), (41, .aload 5, 2), (43, .iload 4, 2), (45, .invokestatic 270, 3), (48, .istore 6, 2), (50, .iload 6, 2), (52, .bipush (-3), 2), (54, .if_icmp .ne 6, 3), (57, .bipush (-3), 2), (59, .ireturn, 1), (60, .iload 6, 2), (62, .iconst 5, 1), (63, .if_icmp .ne 18, 3), (66, .aload 5, 2), (68, .aload 5, 2), (70, .getfield 121, 3), (73, .putfield 273, 3), (76, .aload 5, 2), (78, .invokevirtual 244, 3), (81, .aload 5, 2), (83, .iload 6, 2), (85, .putfield 121, 3), (88, .aload_n 0, 1), (89, .aload 5, 2), (91, .iload_n 1, 1), (92, .iload_n 2, 1), (93, .iload_n 3, 1), (94, .invokevirtual 276, 3)]
theorem xo96_0 : x_cOk prog_1_method_21_code xc96_0 = true := x_cOk_w (by decide +kernel)
def xc96_1 : List (Nat × Instr × Nat) := [(97, .ireturn, 1)]
theorem xo96_1 : x_cOk prog_1_method_21_code xc96_1 = true := x_cOk_w (by decide +kernel)
def xg96 : Nat → Option (Instr × Nat) := fun pc => if pc < 97 then x_at2 pc xc96_0 else x_at2 pc xc96_1
theorem xh96 : x_Good prog_1_method_21_code xg96 := by
  unfold xg96
  exact x_Good_ite (x_Good_l xo96_0) (x_Good_l xo96_1)
def xm96 : XM := (⟨"TwoDigits", "does", "(IIII)I"⟩, prog_1_method_21_code, 7, some .int, 0, 0, 4, 0, 0, false, xg96)
def xc97_0 : List (Nat × Instr × Nat) := [(0, .iload_n 0, 1), (1, .iconst 0, 1), (2, .bipush 7, 2), (4, .invokestatic 178, 3), (7, .ireturn, 1)]
theorem xo97_0 : x_cOk prog_1_method_66_code xc97_0 = true := x_cOk_w (by decide +kernel)
def xg97 : Nat → Option (Instr × Nat) := fun pc => x_at2 pc xc97_0
theorem xh97 : x_Good prog_1_method_66_code xg97 := by
  unfold xg97
  exact x_Good_l xo97_0
def xm97 : XM := (⟨"TwoDigits", "isHand", "(I)Z"⟩, prog_1_method_66_code, 1, some .boolean, 0, 0, 1, 0, 0, false, xg97)
def xc98_0 : List (Nat × Instr × Nat) := [(0, .iload_n 0, 1), (1, .iconst 0, 1), (2, .sipush 999, 3), (5, .invokestatic 178, 3), (8, .ireturn, 1)]
theorem xo98_0 : x_cOk prog_1_method_65_code xc98_0 = true := x_cOk_w (by decide +kernel)
def xg98 : Nat → Option (Instr × Nat) := fun pc => x_at2 pc xc98_0
theorem xh98 : x_Good prog_1_method_65_code xg98 := by
  unfold xg98
  exact x_Good_l xo98_0
def xm98 : XM := (⟨"TwoDigits", "isDay", "(I)Z"⟩, prog_1_method_65_code, 1, some .boolean, 0, 0, 1, 0, 0, false, xg98)
def xc99_0 : List (Nat × Instr × Nat) := [(0, .iload_n 1, 1), (1, .tableswitch 71 0 2 #[27, 41, 56], 27), (28, .aload_n 0, 1), (29, .getfield 121, 3), (32, .ifCond .ne 7, 3), (35, .iconst 1, 1), (36, .goto 5, 3), (39, .bipush (-3), 2), (41, .ireturn, 1), (42, .aload_n 0, 1), (43, .getfield 121, 3), (46, .iconst 3, 1), (47, .if_icmp .ne 7, 3), (50, .iconst 4, 1), (51, .goto 5, 3), (54, .bipush (-3), 2), (56, .ireturn, 1), (57, .aload_n 0, 1), (58, .getfield 121, 3), (61, .iconst 5, 1), (62, .if_icmp .eq 7, 3), (65, .iconst 5, 1), (66, .goto 5, 3), (69, .bipush (-3), 2), (71, .ireturn, 1), (72, .aload_n 0, 1), (73, .getfield 121, 3), (76, .iconst 5, 1), (77, .if_icmp .ne 10, 3), (80, .aload_n 0, 1), (81, .getfield 273, 3), (84, .goto 5, 3), (87, .bipush (-3), 2), (89, .ireturn, 1)]
theorem xo99_0 : x_cOk prog_1_method_22_code xc99_0 = true := x_cOk_w (by decide +kernel)
def xg99 : Nat → Option (Instr × Nat) := fun pc => x_at2 pc xc99_0
theorem xh99 : x_Good prog_1_method_22_code xg99 := by
  unfold xg99
  exact x_Good_l xo99_0
def xm99 : XM := (⟨"TwoDigits", "stateAfter", "(LTwoDigits$Program;I)I"⟩, prog_1_method_22_code, 2, some .int, 0, 0, 2, 0, 0, false, xg99)
def xc100_0 : List (Nat × Instr × Nat) := [(0, .aload_n 0, 1), (1, .getfield 59, 3), (4, .iload_n 2, 1), (5, .iload_n 3, 1), (6, .iload 4, 2), (8, .aload_n 1, 1), (9, .getfield 121, 3), (12, .iconst 0, 1), (13, .invokevirtual 291, 3), (16, .pop, 1), (17, .aload_n 1, 1), (18, .getfield 121, 3), (21, .ireturn, 1)]
theorem xo100_0 : x_cOk prog_1_method_27_code xc100_0 = true := x_cOk_w (by decide +kernel)
def xg100 : Nat → Option (Instr × Nat) := fun pc => x_at2 pc xc100_0
theorem xh100 : x_Good prog_1_method_27_code xg100 := by
  unfold xg100
  exact x_Good_l xo100_0
def xm100 : XM := (⟨"TwoDigits", "intoBook", "(LTwoDigits$Program;III)I"⟩, prog_1_method_27_code, 5, some .int, 0, 0, 4, 0, 0, false, xg100)
def xc101_0 : List (Nat × Instr × Nat) := [(0, .aload_n 0, 1), (1, .dup, 1), (2, .getfield 22, 3), (5, .iconst 1, 1), (6, .iadd, 1), (7, .putfield 22, 3), (10, .aload_n 0, 1), (11, .getfield 25, 3), (14, .aload_n 0, 1), (15, .getfield 9, 3), (18, .if_icmp .lt 6, 3), (21, .bipush (-4), 2), (23, .ireturn, 1), (24, .aload_n 0, 1), (25, .aload_n 0, 1), (26, .getfield 25, 3), (29, .iconst 0, 1), (30, .iload_n 1, 1), (31, .invokevirtual 28, 3), (34, .aload_n 0, 1), (35, .aload_n 0, 1), (36, .getfield 25, 3), (39, .iconst 1, 1), (40, .iload_n 2, 1), (41, .invokevirtual 28, 3), (44, .aload_n 0, 1), (45, .aload_n 0, 1), (46, .getfield 25, 3), (49, .iconst 2, 1), (50, .iload_n 3, 1), (51, .invokevirtual 28, 3), (54, .aload_n 0, 1), (55, .aload_n 0, 1), (56, .getfield 25, 3), (59, .iconst 3, 1), (60, .iload 4, 2), (62, .invokevirtual 28, 3), (65, .aload_n 0, 1), (66, .aload_n 0, 1), (67, .getfield 25, 3), (70, .iconst 4, 1), (71, .iload 5, 2), (73, .invokevirtual 28, 3), (76, .aload_n 0, 1), (77, .dup, 1), (78, .getfield 25, 3), (81, .iconst 1, 1), (82, .iadd, 1)]
theorem xo101_0 : x_cOk prog_10_method_2_code xc101_0 = true := x_cOk_w (by decide +kernel)
def xc101_1 : List (Nat × Instr × Nat) := [(83, .putfield 25, 3), (86, .aload_n 0, 1), (87, .getfield 25, 3), (90, .iconst 1, 1), (91, .isub, 1), (92, .ireturn, 1)]
theorem xo101_1 : x_cOk prog_10_method_2_code xc101_1 = true := x_cOk_w (by decide +kernel)
def xg101 : Nat → Option (Instr × Nat) := fun pc => if pc < 83 then x_at2 pc xc101_0 else x_at2 pc xc101_1
theorem xh101 : x_Good prog_10_method_2_code xg101 := by
  unfold xg101
  exact x_Good_ite (x_Good_l xo101_0) (x_Good_l xo101_1)
def xm101 : XM := (⟨"TwoDigits$Table", "add", "(IIIII)I"⟩, prog_10_method_2_code, 6, some .int, 6, 6, 5, 0, 0, false, xg101)
def xc102_0 : List (Nat × Instr × Nat) := [(0, .iload_n 2, 1), (1, .aload_n 0, 1), (2, .getfield 15, 3), (5, .if_icmp .ge 17, 3), (8, .aload_n 0, 1), (9, .getfield 18, 3), (12, .iload_n 1, 1), (13, .aload_n 0, 1), (14, .getfield 15, 3), (17, .imul, 1), (18, .iload_n 2, 1), (19, .iadd, 1), (20, .iload_n 3, 1), (21, .iastore, 1), (22, .return_, 1)]
theorem xo102_0 : x_cOk prog_10_method_3_code xc102_0 = true := x_cOk_w (by decide +kernel)
def xg102 : Nat → Option (Instr × Nat) := fun pc => x_at2 pc xc102_0
theorem xh102 : x_Good prog_10_method_3_code xg102 := by
  unfold xg102
  exact x_Good_l xo102_0
def xm102 : XM := (⟨"TwoDigits$Table", "put", "(III)V"⟩, prog_10_method_3_code, 4, none, 6, 6, 3, 0, 0, false, xg102)
def xc103_0 : List (Nat × Instr × Nat) := [(0, .aload_n 0, 1), (1, .iload_n 1, 1), (2, .invokevirtual 117, 3), (5, .astore 7, 2), (7, .aload 7, 2), (9, .ifnull 18, 3), (12, .iload 4, 2), (14, .invokestatic 163, 3), (17, .ifCond .eq 10, 3), (20, .iload_n 2, 1), (21, .invokestatic 264, 3), (24, .ifCond .ne 5, 3), (27, .iconst (-1), 1), (28, .ireturn, 1), (29, .iload_n 3, 1), (30, .invokestatic 267, 3), (33, .ifCond .eq 13, 3), (36, .iload 5, 2), (38, .iload 6, 2), (40, .invokestatic 280, 3), (43, .ifCond .ne 6, 3), (46, .bipush (-2), 2), (48, .ireturn, 1), (49, .aload 7, 2), (51, .invokestatic 283, 3), (54, .ifCond .ne 6, 3), (57, .bipush (-3), 2), (59, .ireturn, 1), (60, .aload 7, 2), (62, .getfield 127, 3), (65, .iload 4, 2), (67, .iload 5, 2), (69, .iload 6, 2), (71, .invokevirtual 287, 3), (74, .aload 7, 2), (76, .iconst 2, 1), (77, .putfield 121, 3), (80, .aload_n 0, 1), (81, .aload 7, 2), (83, .iload_n 1, 1), (84, .iload_n 2, 1), (85, .iload_n 3, 1), (86, .invokevirtual 276, 3), (89, .ireturn, 1)]
theorem xo103_0 : x_cOk prog_1_method_23_code xc103_0 = true := x_cOk_w (by decide +kernel)
def xg103 : Nat → Option (Instr × Nat) := fun pc => x_at2 pc xc103_0
theorem xh103 : x_Good prog_1_method_23_code xg103 := by
  unfold xg103
  exact x_Good_l xo103_0
def xm103 : XM := (⟨"TwoDigits", "mend", "(IIIIII)I"⟩, prog_1_method_23_code, 8, some .int, 0, 0, 6, 0, 0, false, xg103)
def xc104_0 : List (Nat × Instr × Nat) := [(0, .iload_n 0, 1), (1, .iconst 2, 1), (2, .if_icmp .eq 8, 3), (5, .iload_n 0, 1), (6, .iconst 4, 1), (7, .if_icmp .ne 17, 3), (10, .iload_n 1, 1), (11, .iconst (-1), 1), (12, .bipush 100, 2), (14, .invokestatic 178, 3), (17, .ifCond .eq 7, 3), (20, .iconst 1, 1), (21, .goto 4, 3), (24, .iconst 0, 1), (25, .ireturn, 1)]
theorem xo104_0 : x_cOk prog_1_method_69_code xc104_0 = true := x_cOk_w (by decide +kernel)
def xg104 : Nat → Option (Instr × Nat) := fun pc => x_at2 pc xc104_0
theorem xh104 : x_Good prog_1_method_69_code xg104 := by
  unfold xg104
  exact x_Good_l xo104_0
def xm104 : XM := (⟨"TwoDigits", "isKept", "(II)Z"⟩, prog_1_method_69_code, 2, some .boolean, 0, 0, 2, 0, 0, false, xg104)
def xc105_0 : List (Nat × Instr × Nat) := [(0, .aload_n 0, 1), (1, .getfield 121, 3), (4, .iconst 1, 1), (5, .if_icmp .eq 19, 3), (8, .aload_n 0, 1), (9, .getfield 121, 3), (12, .iconst 2, 1), (13, .if_icmp .eq 11, 3), (16, .aload_n 0, 1), (17, .getfield 121, 3), (20, .iconst 3, 1), (21, .if_icmp .ne 7, 3), (24, .iconst 1, 1), (25, .goto 4, 3), (28, .iconst 0, 1), (29, .ireturn, 1)]
theorem xo105_0 : x_cOk prog_1_method_25_code xc105_0 = true := x_cOk_w (by decide +kernel)
def xg105 : Nat → Option (Instr × Nat) := fun pc => x_at2 pc xc105_0
theorem xh105 : x_Good prog_1_method_25_code xg105 := by
  unfold xg105
  exact x_Good_l xo105_0
def xm105 : XM := (⟨"TwoDigits", "canBeMended", "(LTwoDigits$Program;)Z"⟩, prog_1_method_25_code, 1, some .boolean, 0, 0, 1, 0, 0, false, xg105)
def xc106_0 : List (Nat × Instr × Nat) := [(0, .aload_n 0, 1), (1, .getfield 9, 3), (4, .iload_n 1, 1), (5, .iload_n 2, 1), (6, .iastore, 1), (7, .aload_n 0, 1), (8, .getfield 15, 3), (11, .iload_n 1, 1), (12, .iload_n 3, 1), (13, .iastore, 1), (14, .return_, 1)]
theorem xo106_0 : x_cOk prog_8_method_3_code xc106_0 = true := x_cOk_w (by decide +kernel)
def xg106 : Nat → Option (Instr × Nat) := fun pc => x_at2 pc xc106_0
theorem xh106 : x_Good prog_8_method_3_code xg106 := by
  unfold xg106
  exact x_Good_l xo106_0
def xm106 : XM := (⟨"TwoDigits$Setting", "change", "(III)V"⟩, prog_8_method_3_code, 4, none, 3, 3, 3, 0, 0, false, xg106)
def xc107_0 : List (Nat × Instr × Nat) := [(0, .aload_n 0, 1), (1, .iload_n 1, 1), (2, .invokevirtual 117, 3), (5, .astore 5, 2), (7, .aload 5, 2), (9, .ifnull 10, 3), (12, .iload_n 2, 1), (13, .invokestatic 264, 3), (16, .ifCond .ne 5, 3), (19, .iconst (-1), 1), (20, .ireturn, 1), (21, .iload_n 3, 1), (22, .invokestatic 267, 3), (25, .ifCond .eq 11, 3), (28, .iload 4, 2), (30, .invokestatic 234, 3), (33, .ifCond .ne 6, 3), (36, .bipush (-2), 2), (38, .ireturn, 1), (39, .aload 5, 2), (41, .invokestatic 283, 3), (44, .ifCond .ne 6, 3), (47, .bipush (-3), 2), (49, .ireturn, 1), (50, .aload 5, 2), (52, .getfield 127, 3), (55, .iload 4, 2), (57, .putfield 130, 3), (60, .aload 5, 2), (62, .iconst 2, 1), (63, .putfield 121, 3), (66, .aload_n 0, 1), (67, .aload 5, 2), (69, .iload_n 1, 1), (70, .iload_n 2, 1), (71, .iload_n 3, 1), (72, .invokevirtual 276, 3), (75, .ireturn, 1)]
theorem xo107_0 : x_cOk prog_1_method_24_code xc107_0 = true := x_cOk_w (by decide +kernel)
def xg107 : Nat → Option (Instr × Nat) := fun pc => x_at2 pc xc107_0
theorem xh107 : x_Good prog_1_method_24_code xg107 := by
  unfold xg107
  exact x_Good_l xo107_0
def xm107 : XM := (⟨"TwoDigits", "mendRule", "(IIII)I"⟩, prog_1_method_24_code, 6, some .int, 0, 0, 4, 0, 0, false, xg107)
def xc108_0 : List (Nat × Instr × Nat) := [(0, .aload_n 0, 1), (1, .iload_n 1, 1), (2, .invokevirtual 117, 3), (5, .astore 5, 2), (7, .aload 5, 2), (9, .ifnull 10, 3), (12, .iload_n 2, 1), (13, .invokestatic 264, 3), (16, .ifCond .ne 5, 3), (19, .iconst (-1), 1), (20, .ireturn, 1), (21, .iload_n 3, 1), (22, .invokestatic 267, 3), (25, .ifCond .eq 11, 3), (28, .iload 4, 2), (30, .invokestatic 212, 3), (33, .ifCond .ne 6, 3), (36, .bipush (-2), 2), (38, .ireturn, 1), (39, .aload 5, 2), (41, .getfield 121, 3), (44, .iconst 2, 1), (45, .if_icmp .eq 6, 3), (48, .bipush (-3), 2), (50, .ireturn, 1), (51, .aload_n 0, 1), (52, .aload 5, 2), (54, .iload 4, 2), (56, .invokevirtual 215, 3), (59, .aload 5, 2), (61, .getfield 159, 3), (64, .ifCond .ne 9, 3), (67, .aload 5, 2), (69, .iconst 3, 1), (70, .putfield 121, 3), (73, .aload_n 0, 1), (74, .aload 5, 2), (76, .iload_n 1, 1), (77, .iload_n 2, 1), (78, .iload_n 3, 1), (79, .invokevirtual 276, 3), (82, .ireturn, 1)]
theorem xo108_0 : x_cOk prog_1_method_26_code xc108_0 = true := x_cOk_w (by decide +kernel)
def xg108 : Nat → Option (Instr × Nat) := fun pc => x_at2 pc xc108_0
theorem xh108 : x_Good prog_1_method_26_code xg108 := by
  unfold xg108
  exact x_Good_l xo108_0
def xm108 : XM := (⟨"TwoDigits", "test", "(IIII)I"⟩, prog_1_method_26_code, 6, some .int, 0, 0, 4, 0, 0, false, xg108)
def xc109_0 : List (Nat × Instr × Nat) := [(0, .aload_n 0, 1), (1, .getfield 59, 3), (4, .iload_n 1, 1), (5, .iload_n 2, 1), (6, .invokevirtual 294, 3), (9, .ifCond .eq 15, 3), (12, .aload_n 0, 1), (13, .getfield 59, 3), (16, .iload_n 1, 1), (17, .iload_n 2, 1), (18, .invokevirtual 296, 3), (21, .goto 5, 3), (24, .bipush (-5), 2), (26, .ireturn, 1)]
theorem xo109_0 : x_cOk prog_1_method_28_code xc109_0 = true := x_cOk_w (by decide +kernel)
def xg109 : Nat → Option (Instr × Nat) := fun pc => x_at2 pc xc109_0
theorem xh109 : x_Good prog_1_method_28_code xg109 := by
  unfold xg109
  exact x_Good_l xo109_0
def xm109 : XM := (⟨"TwoDigits", "book", "(II)I"⟩, prog_1_method_28_code, 3, some .int, 0, 0, 2, 0, 0, false, xg109)
def xc110_0 : List (Nat × Instr × Nat) := [(0, .iload_n 1, 1), (1, .ifCond .lt 27, 3), (4, .iload_n 1, 1), (5, .aload_n 0, 1), (6, .getfield 25, 3), (9, .if_icmp .ge 19, 3), (12, .iload_n 2, 1), (13, .ifCond .lt 15, 3), (16, .iload_n 2, 1), (17, .aload_n 0, 1), (18, .getfield 15, 3), (21, .if_icmp .ge 7, 3), (24, .iconst 1, 1), (25, .goto 4, 3), (28, .iconst 0, 1), (29, .ireturn, 1)]
theorem xo110_0 : x_cOk prog_10_method_4_code xc110_0 = true := x_cOk_w (by decide +kernel)
def xg110 : Nat → Option (Instr × Nat) := fun pc => x_at2 pc xc110_0
theorem xh110 : x_Good prog_10_method_4_code xg110 := by
  unfold xg110
  exact x_Good_l xo110_0
def xm110 : XM := (⟨"TwoDigits$Table", "has", "(II)Z"⟩, prog_10_method_4_code, 3, some .boolean, 6, 6, 2, 0, 0, false, xg110)
def xc111_0 : List (Nat × Instr × Nat) := [(0, .aload_n 0, 1), (1, .iload_n 1, 1), (2, .iload_n 2, 1), (3, .invokevirtual 32, 3), (6, .ifCond .eq 19, 3), (9, .aload_n 0, 1), (10, .getfield 18, 3), (13, .iload_n 1, 1), (14, .aload_n 0, 1), (15, .getfield 15, 3), (18, .imul, 1), (19, .iload_n 2, 1), (20, .iadd, 1), (21, .iaload, 1), (22, .goto 4, 3), (25, .iconst 0, 1), (26, .ireturn, 1)]
theorem xo111_0 : x_cOk prog_10_method_5_code xc111_0 = true := x_cOk_w (by decide +kernel)
def xg111 : Nat → Option (Instr × Nat) := fun pc => x_at2 pc xc111_0
theorem xh111 : x_Good prog_10_method_5_code xg111 := by
  unfold xg111
  exact x_Good_l xo111_0
def xm111 : XM := (⟨"TwoDigits$Table", "get", "(II)I"⟩, prog_10_method_5_code, 3, some .int, 6, 6, 2, 0, 0, false, xg111)
def xc112_0 : List (Nat × Instr × Nat) := [(0, .aload_n 0, 1), (1, .iload_n 1, 1), (2, .invokevirtual 117, 3), (5, .astore 6, 2), (7, .aload 6, 2), (9, .ifnull 21, 3), (12, .iload_n 2, 1), (13, .invokestatic 163, 3), (16, .ifCond .eq 14, 3), (19, .iload 5, 2), (21, .ifCond .lt 9, 3), (24, .iload 5, 2), (26, .iconst 1, 1), (27, .if_icmp .le 5, 3), (30, .iconst (-1), 1), (31, .ireturn, 1), (32, .iload_n 3, 1), (33, .iload 4, 2), (35, .invokestatic 280, 3), (38, .ifCond .ne 6, 3), (41, .bipush (-2), 2), (43, .ireturn, 1), (44, .aload_n 0, 1), (45, .aload 6, 2), (47, .iload_n 2, 1), (48, .iload_n 3, 1), (49, .iload 4, 2), (51, .invokevirtual 298, 3), (54, .iconst 0, 1), (55, .istore 7, 2), (57, .iconst (-1), 1), (58, .istore 8, 2), (60, .sipush 2099, 3), (63, .istore 9, 2), (65, .iload 9, 2), (67, .sipush 1900, 3), (70, .if_icmp .lt 29, 3), (73, .aload_n 0, 1), (74, .aload 6, 2), (76, .iload 9, 2), (78, .invokevirtual 302, 3), (81, .iconst 1, 1), (82, .iand, 1), (83, .ifCond .eq 10, 3), (86, .iinc 7 1, 3), (89, .iload 9, 2), (91, .istore 8, 2), (93, .iinc 9 (-1), 3)]
theorem xo112_0 : x_cOk prog_1_method_29_code xc112_0 = true := x_cOk_w (by decide +kernel)
def xc112_1 : List (Nat × Instr × Nat) := [(96, .goto (-31), 3), (99, .iload 5, 2), (101, .ifCond .ne 8, 3), (104, .iload 7, 2), (106, .goto 5, 3), (109, .iload 8, 2), (111, .ireturn, 1)]
theorem xo112_1 : x_cOk prog_1_method_29_code xc112_1 = true := x_cOk_w (by decide +kernel)
def xg112 : Nat → Option (Instr × Nat) := fun pc => if pc < 96 then x_at2 pc xc112_0 else x_at2 pc xc112_1
theorem xh112 : x_Good prog_1_method_29_code xg112 := by
  unfold xg112
  exact x_Good_ite (x_Good_l xo112_0) (x_Good_l xo112_1)
def xm112 : XM := (⟨"TwoDigits", "breaks", "(IIIII)I"⟩, prog_1_method_29_code, 10, some .int, 0, 0, 5, 0, 0, false, xg112)
def xc113_0 : List (Nat × Instr × Nat) := [(0, .aload_n 0, 1), (1, .getfield 41, 3), (4, .aload_n 1, 1), (5, .getfield 127, 3), (8, .invokevirtual 305, 3), (11, .aload_n 0, 1), (12, .getfield 41, 3), (15, .iload_n 2, 1), (16, .iload_n 3, 1), (17, .iload 4, 2), (19, .invokevirtual 287, 3), (22, .return_, 1)]
theorem xo113_0 : x_cOk prog_1_method_30_code xc113_0 = true := x_cOk_w (by decide +kernel)
def xg113 : Nat → Option (Instr × Nat) := fun pc => x_at2 pc xc113_0
theorem xh113 : x_Good prog_1_method_30_code xg113 := by
  unfold xg113
  exact x_Good_l xo113_0
def xm113 : XM := (⟨"TwoDigits", "alter", "(LTwoDigits$Program;III)V"⟩, prog_1_method_30_code, 5, none, 0, 0, 4, 0, 0, false, xg113)
def xc114_0 : List (Nat × Instr × Nat) := [(0, .aload_n 1, 1), (1, .getfield 9, 3), (4, .iconst 0, 1), (5, .aload_n 0, 1), (6, .getfield 9, 3), (9, .iconst 0, 1), (10, .bipush 6, 2), (12, .invokestatic 26, 3), (15, .aload_n 1, 1), (16, .getfield 15, 3), (19, .iconst 0, 1), (20, .aload_n 0, 1), (21, .getfield 15, 3), (24, .iconst 0, 1), (25, .bipush 6, 2), (27, .invokestatic 26, 3), (30, .aload_n 0, 1), (31, .aload_n 1, 1), (32, .getfield 22, 3), (35, .putfield 22, 3), (38, .return_, 1)]
theorem xo114_0 : x_cOk prog_8_method_2_code xc114_0 = true := x_cOk_w (by decide +kernel)
def xg114 : Nat → Option (Instr × Nat) := fun pc => x_at2 pc xc114_0
theorem xh114 : x_Good prog_8_method_2_code xg114 := by
  unfold xg114
  exact x_Good_l xo114_0
def xm114 : XM := (⟨"TwoDigits$Setting", "takeOver", "(LTwoDigits$Setting;)V"⟩, prog_8_method_2_code, 2, none, 3, 3, 1, 0, 0, false, xg114)
def xc115_0 : List (Nat × Instr × Nat) := [(0, .aload_n 0, 1), (1, .getfield 47, 3), (4, .aload_n 1, 1), (5, .getfield 133, 3), (8, .aload_n 1, 1), (9, .getfield 127, 3), (12, .aload_n 0, 1), (13, .aload_n 1, 1), (14, .invokevirtual 309, 3), (17, .aload_n 0, 1), (18, .getfield 47, 3), (21, .getfield 313, 3), (24, .iload_n 2, 1), (25, .invokevirtual 316, 3), (28, .aload_n 0, 1), (29, .getfield 51, 3), (32, .aload_n 1, 1), (33, .getfield 133, 3), (36, .aload_n 0, 1), (37, .getfield 41, 3), (40, .aload_n 0, 1), (41, .aload_n 1, 1), (42, .invokevirtual 309, 3), (45, .aload_n 0, 1), (46, .getfield 51, 3), (49, .getfield 313, 3), (52, .iload_n 2, 1), (53, .invokevirtual 316, 3), (56, .aload_n 0, 1), (57, .getfield 47, 3), (60, .invokevirtual 320, 3), (63, .istore_n 3, 1), (64, .aload_n 0, 1), (65, .getfield 51, 3), (68, .invokevirtual 320, 3), (71, .istore 4, 2), (73, .aload_n 0, 1), (74, .getfield 47, 3), (77, .getfield 313, 3), (80, .aload_n 0, 1), (81, .getfield 51, 3), (84, .getfield 313, 3), (87, .invokevirtual 324, 3), (90, .ifCond .eq 7, 3), (93, .iconst 0, 1), (94, .goto 4, 3), (97, .iconst 1, 1), (98, .istore 5, 2)]
theorem xo115_0 : x_cOk prog_1_method_31_code xc115_0 = true := x_cOk_w (by decide +kernel)
def xc115_1 : List (Nat × Instr × Nat) := [(100, .iload_n 3, 1), (101, .iload 4, 2), (103, .if_icmp .ne 8, 3), (106, .iload 5, 2), (108, .goto 7, 3), (111, .iload 5, 2), (113, .iconst 2, 1), (114, .ior, 1), (115, .ireturn, 1)]
theorem xo115_1 : x_cOk prog_1_method_31_code xc115_1 = true := x_cOk_w (by decide +kernel)
def xg115 : Nat → Option (Instr × Nat) := fun pc => if pc < 100 then x_at2 pc xc115_0 else x_at2 pc xc115_1
theorem xh115 : x_Good prog_1_method_31_code xg115 := by
  unfold xg115
  exact x_Good_ite (x_Good_l xo115_0) (x_Good_l xo115_1)
def xm115 : XM := (⟨"TwoDigits", "changesByAltered", "(LTwoDigits$Program;I)I"⟩, prog_1_method_31_code, 6, some .int, 0, 0, 2, 0, 0, false, xg115)
def xc116_0 : List (Nat × Instr × Nat) := [(0, .iconst 0, 1), (1, .istore_n 1, 1), (2, .iload_n 1, 1), (3, .sipush 150, 3), (6, .if_icmp .ge 20, 3), (9, .aload_n 0, 1), (10, .invokevirtual 66, 3), (13, .ifCond .ne 13, 3), (16, .aload_n 0, 1), (17, .invokevirtual 70, 3), (20, .iinc 1 1, 3), (23, .goto (-21), 3), (26, .aload_n 0, 1), (27, .getfield 44, 3), (30, .ireturn, 1)]
theorem xo116_0 : x_cOk prog_7_method_4_code xc116_0 = true := x_cOk_w (by decide +kernel)
def xg116 : Nat → Option (Instr × Nat) := fun pc => x_at2 pc xc116_0
theorem xh116 : x_Good prog_7_method_4_code xg116 := by
  unfold xg116
  exact x_Good_l xo116_0
def xm116 : XM := (⟨"TwoDigits$Runner", "finish", "()I"⟩, prog_7_method_4_code, 2, some .int, 4, 4, 0, 0, 0, false, xg116)
def xc117_0 : List (Nat × Instr × Nat) := [(0, .iload_n 1, 1), (1, .iconst 0, 1), (2, .bipush 100, 2), (4, .invokestatic 178, 3), (7, .ifCond .eq 10, 3), (10, .iload_n 2, 1), (11, .invokestatic 234, 3), (14, .ifCond .ne 6, 3), (17, .bipush (-2), 2), (19, .ireturn, 1), (20, .aload_n 0, 1), (21, .getfield 328, 3), (24, .bipush 6, 2), (26, .if_icmp .lt 6, 3), (29, .bipush (-4), 2), (31, .ireturn, 1), (32, .aload_n 0, 1), (33, .getfield 65, 3), (36, .aload_n 0, 1), (37, .getfield 328, 3), (40, .new 63, 3), (43, .dup, 1), (44, .iload_n 1, 1), (45, .iload_n 2, 1), (46, .invokespecial 331, 3), (49, .aastore, 1), (50, .aload_n 0, 1), (51, .dup, 1), (52, .getfield 328, 3), (55, .iconst 1, 1), (56, .iadd, 1), (57, .putfield 328, 3), (60, .aload_n 0, 1), (61, .getfield 328, 3), (64, .iconst 1, 1), (65, .isub, 1), (66, .ireturn, 1)]
theorem xo117_0 : x_cOk prog_1_method_32_code xc117_0 = true := x_cOk_w (by decide +kernel)
def xg117 : Nat → Option (Instr × Nat) := fun pc => x_at2 pc xc117_0
theorem xh117 : x_Good prog_1_method_32_code xg117 := by
  unfold xg117
  exact x_Good_l xo117_0
def xm117 : XM := (⟨"TwoDigits", "chip", "(II)I"⟩, prog_1_method_32_code, 3, some .int, 0, 0, 2, 1, 6, false, xg117)
def xc118_0 : List (Nat × Instr × Nat) := [(0, .aload_n 0, 1), (1, .invokespecial 3, 3), (4, .aload_n 0, 1), (5, .iconst 0, 1), (6, .putfield 9, 3), (9, .aload_n 0, 1), (10, .bipush 100, 2), (12, .putfield 15, 3), (15, .aload_n 0, 1), (16, .bipush 7, 2), (18, .putfield 18, 3), (21, .aload_n 0, 1), (22, .iload_n 1, 1), (23, .putfield 21, 3), (26, .aload_n 0, 1), (27, .iload_n 2, 1), (28, .putfield 24, 3), (31, .return_, 1)]
theorem xo118_0 : x_cOk prog_2_method_1_code xc118_0 = true := x_cOk_w (by decide +kernel)
def xg118 : Nat → Option (Instr × Nat) := fun pc => x_at2 pc xc118_0
theorem xh118 : x_Good prog_2_method_1_code xg118 := by
  unfold xg118
  exact x_Good_l xo118_0
def xm118 : XM := (⟨"TwoDigits$Chip", "<init>", "(II)V"⟩, prog_2_method_1_code, 3, none, 11, 11, 2, 0, 0, true, xg118)
def xc119_0 : List (Nat × Instr × Nat) := [(0, .aload_n 0, 1), (1, .iload_n 1, 1), (2, .invokevirtual 332, 3), (5, .astore_n 3, 1), (6, .aload_n 3, 1), (7, .ifnonnull 5, 3), (10, .iconst (-1), 1), (11, .ireturn, 1), (12, .iload_n 2, 1), (13, .invokestatic 212, 3), (16, .ifCond .ne 6, 3), (19, .bipush (-2), 2), (21, .ireturn, 1), (22, .aload_n 3, 1), (23, .getfield 336, 3), (26, .bipush 30, 2), (28, .if_icmp .lt 6, 3), (31, .bipush (-4), 2), (33, .ireturn, 1), (34, .aload_n 3, 1), (35, .iload_n 2, 1), (36, .bipush 100, 2), (38, .irem, 1), (39, .invokevirtual 339, 3), (42, .ireturn, 1)]
theorem xo119_0 : x_cOk prog_1_method_33_code xc119_0 = true := x_cOk_w (by decide +kernel)
def xg119 : Nat → Option (Instr × Nat) := fun pc => x_at2 pc xc119_0
theorem xh119 : x_Good prog_1_method_33_code xg119 := by
  unfold xg119
  exact x_Good_l xo119_0
def xm119 : XM := (⟨"TwoDigits", "ask", "(II)I"⟩, prog_1_method_33_code, 4, some .int, 0, 0, 2, 0, 0, false, xg119)
def xc120_0 : List (Nat × Instr × Nat) := [(0, .iload_n 1, 1), (1, .ifCond .lt 20, 3), (4, .iload_n 1, 1), (5, .aload_n 0, 1), (6, .getfield 328, 3), (9, .if_icmp .ge 12, 3), (12, .aload_n 0, 1), (13, .getfield 65, 3), (16, .iload_n 1, 1), (17, .aaload, 1), (18, .goto 4, 3), (21, .aconst_null, 1), (22, .areturn, 1)]
theorem xo120_0 : x_cOk prog_1_method_61_code xc120_0 = true := x_cOk_w (by decide +kernel)
def xg120 : Nat → Option (Instr × Nat) := fun pc => x_at2 pc xc120_0
theorem xh120 : x_Good prog_1_method_61_code xg120 := by
  unfold xg120
  exact x_Good_l xo120_0
def xm120 : XM := (⟨"TwoDigits", "chipAt", "(I)LTwoDigits$Chip;"⟩, prog_1_method_61_code, 2, some (.object "TwoDigits$Chip"), 0, 0, 1, 0, 0, false, xg120)
def xc121_0 : List (Nat × Instr × Nat) := [(0, .aload_n 0, 1), (1, .dup, 1), (2, .getfield 27, 3), (5, .iconst 1, 1), (6, .iadd, 1), (7, .putfield 27, 3), (10, .iload_n 1, 1), (11, .aload_n 0, 1), (12, .getfield 21, 3), (15, .invokestatic 30, 3), (18, .istore_n 2, 1), (19, .iload_n 2, 1), (20, .aload_n 0, 1), (21, .getfield 24, 3), (24, .invokestatic 34, 3), (27, .istore_n 3, 1), (28, .iload_n 1, 1), (29, .aload_n 0, 1), (30, .getfield 21, 3), (33, .if_icmp .lt 18, 3), (36, .aload_n 0, 1), (37, .aload_n 0, 1), (38, .getfield 15, 3), (41, .iload_n 1, 1), (42, .invokestatic 38, 3), (45, .putfield 15, 3), (48, .goto 17, 3), (51, .aload_n 0, 1), (52, .aload_n 0, 1), (53, .getfield 9, 3), (56, .iload_n 1, 1), (57, .iconst 1, 1), (58, .iadd, 1), (59, .invokestatic 43, 3), (62, .putfield 9, 3), (65, .aload_n 0, 1), (66, .dup, 1), (67, .getfield 18, 3), (70, .iload_n 3, 1), (71, .ifCond .eq 10, 3), (74, .iload_n 2, 1), (75, .invokestatic 46, 3), (78, .goto 9, 3), (81, .iload_n 2, 1), (82, .invokestatic 46, 3), (85, .iconst (-1), 1), (86, .ixor, 1), (87, .iand, 1)]
theorem xo121_0 : x_cOk prog_2_method_2_code xc121_0 = true := x_cOk_w (by decide +kernel)
def xc121_1 : List (Nat × Instr × Nat) := [(88, .putfield 18, 3), (91, .iconst 2, 1), (92, .iload_n 2, 1), (93, .imul, 1), (94, .iload_n 3, 1), (95, .ifCond .eq 7, 3), (98, .iconst 1, 1), (99, .goto 4, 3), (102, .iconst 0, 1), (103, .iadd, 1), (104, .ireturn, 1)]
theorem xo121_1 : x_cOk prog_2_method_2_code xc121_1 = true := x_cOk_w (by decide +kernel)
def xg121 : Nat → Option (Instr × Nat) := fun pc => if pc < 88 then x_at2 pc xc121_0 else x_at2 pc xc121_1
theorem xh121 : x_Good prog_2_method_2_code xg121 := by
  unfold xg121
  exact x_Good_ite (x_Good_l xo121_0) (x_Good_l xo121_1)
def xm121 : XM := (⟨"TwoDigits$Chip", "answer", "(I)I"⟩, prog_2_method_2_code, 4, some .int, 11, 11, 1, 0, 0, false, xg121)
def xc122_0 : List (Nat × Instr × Nat) := [(0, .iload_n 0, 1), (1, .iload_n 1, 1), (2, .if_icmp .gt 7, 3), (5, .iload_n 0, 1), (6, .goto 4, 3), (9, .iload_n 1, 1), (10, .ireturn, 1)]
theorem xo122_0 : x_cOk prog_16_method_69_code xc122_0 = true := x_cOk_w (by decide +kernel)
def xg122 : Nat → Option (Instr × Nat) := fun pc => x_at2 pc xc122_0
theorem xh122 : x_Good prog_16_method_69_code xg122 := by
  unfold xg122
  exact x_Good_l xo122_0
def xm122 : XM := (⟨"java/lang/Math", "min", "(II)I"⟩, prog_16_method_69_code, 2, some .int, 14, 114, 2, 0, 0, false, xg122)
def xc123_0 : List (Nat × Instr × Nat) := [(0, .iconst 0, 1), (1, .istore_n 1, 1), (2, .iconst 0, 1), (3, .istore_n 2, 1), (4, .iload_n 2, 1), (5, .iconst 3, 1), (6, .if_icmp .ge 27, 3), (9, .iload_n 1, 1), (10, .iload_n 0, 1), (11, .iload_n 2, 1), (12, .invokestatic 34, 3), (15, .ifCond .eq 9, 3), (18, .iconst 1, 1), (19, .iload_n 2, 1), (20, .ishl, 1), (21, .goto 4, 3), (24, .iconst 0, 1), (25, .ior, 1), (26, .istore_n 1, 1), (27, .iinc 2 1, 3), (30, .goto (-26), 3), (33, .iload_n 1, 1), (34, .ireturn, 1)]
theorem xo123_0 : x_cOk prog_2_method_3_code xc123_0 = true := x_cOk_w (by decide +kernel)
def xg123 : Nat → Option (Instr × Nat) := fun pc => x_at2 pc xc123_0
theorem xh123 : x_Good prog_2_method_3_code xg123 := by
  unfold xg123
  exact x_Good_l xo123_0
def xm123 : XM := (⟨"TwoDigits$Chip", "leapingRules", "(I)I"⟩, prog_2_method_3_code, 3, some .int, 11, 11, 1, 0, 0, false, xg123)
def xc124_0 : List (Nat × Instr × Nat) := [(0, .aload_n 0, 1), (1, .iload_n 1, 1), (2, .invokevirtual 332, 3), (5, .astore_n 3, 1), (6, .aload_n 3, 1), (7, .ifnonnull 5, 3), (10, .iconst (-1), 1), (11, .ireturn, 1), (12, .iload_n 2, 1), (13, .tableswitch 59 0 3 #[31, 36, 41, 50], 31), (44, .aload_n 3, 1), (45, .invokevirtual 342, 3), (48, .ireturn, 1), (49, .aload_n 3, 1), (50, .invokevirtual 345, 3), (53, .ireturn, 1), (54, .sipush 1900, 3), (57, .aload_n 3, 1), (58, .invokevirtual 348, 3), (61, .iadd, 1), (62, .ireturn, 1), (63, .aload_n 3, 1), (64, .aload_n 3, 1), (65, .invokevirtual 348, 3), (68, .invokevirtual 351, 3), (71, .ireturn, 1), (72, .iconst (-1), 1), (73, .ireturn, 1)]
theorem xo124_0 : x_cOk prog_1_method_34_code xc124_0 = true := x_cOk_w (by decide +kernel)
def xg124 : Nat → Option (Instr × Nat) := fun pc => x_at2 pc xc124_0
theorem xh124 : x_Good prog_1_method_34_code xg124 := by
  unfold xg124
  exact x_Good_l xo124_0
def xm124 : XM := (⟨"TwoDigits", "fit", "(II)I"⟩, prog_1_method_34_code, 4, some .int, 0, 0, 2, 0, 0, false, xg124)
def xc125_0 : List (Nat × Instr × Nat) := [(0, .aload_n 0, 1), (1, .getfield 15, 3), (4, .aload_n 0, 1), (5, .getfield 9, 3), (8, .isub, 1), (9, .iconst 1, 1), (10, .iadd, 1), (11, .aload_n 0, 1), (12, .getfield 18, 3), (15, .invokestatic 50, 3), (18, .imul, 1), (19, .ireturn, 1)]
theorem xo125_0 : x_cOk prog_2_method_4_code xc125_0 = true := x_cOk_w (by decide +kernel)
def xg125 : Nat → Option (Instr × Nat) := fun pc => x_at2 pc xc125_0
theorem xh125 : x_Good prog_2_method_4_code xg125 := by
  unfold xg125
  exact x_Good_l xo125_0
def xm125 : XM := (⟨"TwoDigits$Chip", "fitting", "()I"⟩, prog_2_method_4_code, 1, some .int, 11, 11, 0, 0, 0, false, xg125)
def xc126_0 : List (Nat × Instr × Nat) := [(0, .iload_n 0, 1), (1, .iload_n 0, 1), (2, .iconst 1, 1), (3, .iushr, 1), (4, .ldc_w 265, 3), (7, .iand, 1), (8, .isub, 1), (9, .istore_n 0, 1), (10, .iload_n 0, 1), (11, .ldc_w 266, 3), (14, .iand, 1), (15, .iload_n 0, 1), (16, .iconst 2, 1), (17, .iushr, 1), (18, .ldc_w 266, 3), (21, .iand, 1), (22, .iadd, 1), (23, .istore_n 0, 1), (24, .iload_n 0, 1), (25, .iload_n 0, 1), (26, .iconst 4, 1), (27, .iushr, 1), (28, .iadd, 1), (29, .ldc_w 267, 3), (32, .iand, 1), (33, .istore_n 0, 1), (34, .iload_n 0, 1), (35, .iload_n 0, 1), (36, .bipush 8, 2), (38, .iushr, 1), (39, .iadd, 1), (40, .istore_n 0, 1), (41, .iload_n 0, 1), (42, .iload_n 0, 1), (43, .bipush 16, 2), (45, .iushr, 1), (46, .iadd, 1), (47, .istore_n 0, 1), (48, .iload_n 0, 1), (49, .bipush 63, 2), (51, .iand, 1), (52, .ireturn, 1)]
theorem xo126_0 : x_cOk prog_15_method_49_code xc126_0 = true := x_cOk_w (by decide +kernel)
def xg126 : Nat → Option (Instr × Nat) := fun pc => x_at2 pc xc126_0
theorem xh126 : x_Good prog_15_method_49_code xg126 := by
  unfold xg126
  exact x_Good_l xo126_0
def xm126 : XM := (⟨"java/lang/Integer", "bitCount", "(I)I"⟩, prog_15_method_49_code, 1, some .int, 13, 113, 1, 0, 0, false, xg126)
def xc127_0 : List (Nat × Instr × Nat) := [(0, .iconst 0, 1), (1, .istore_n 1, 1), (2, .iload_n 1, 1), (3, .iconst 3, 1), (4, .if_icmp .ge 29, 3), (7, .aload_n 0, 1), (8, .getfield 18, 3), (11, .iload_n 1, 1), (12, .invokestatic 55, 3), (15, .ifCond .eq 12, 3), (18, .aload_n 0, 1), (19, .getfield 9, 3), (22, .iconst 3, 1), (23, .imul, 1), (24, .iload_n 1, 1), (25, .iadd, 1), (26, .ireturn, 1), (27, .iinc 1 1, 3), (30, .goto (-28), 3), (33, .iconst (-1), 1), (34, .ireturn, 1)]
theorem xo127_0 : x_cOk prog_2_method_5_code xc127_0 = true := x_cOk_w (by decide +kernel)
def xg127 : Nat → Option (Instr × Nat) := fun pc => x_at2 pc xc127_0
theorem xh127 : x_Good prog_2_method_5_code xg127 := by
  unfold xg127
  exact x_Good_l xo127_0
def xm127 : XM := (⟨"TwoDigits$Chip", "leastFitting", "()I"⟩, prog_2_method_5_code, 2, some .int, 11, 11, 0, 0, 0, false, xg127)
def xc128_0 : List (Nat × Instr × Nat) := [(0, .iconst 0, 1), (1, .istore_n 1, 1), (2, .iconst 1, 1), (3, .istore_n 2, 1), (4, .iload_n 2, 1), (5, .bipush 100, 2), (7, .if_icmp .ge 24, 3), (10, .aload_n 0, 1), (11, .iload_n 2, 1), (12, .invokevirtual 58, 3), (15, .aload_n 0, 1), (16, .iload_n 1, 1), (17, .invokevirtual 58, 3), (20, .if_icmp .ge 5, 3), (23, .iload_n 2, 1), (24, .istore_n 1, 1), (25, .iinc 2 1, 3), (28, .goto (-24), 3), (31, .iload_n 1, 1), (32, .ireturn, 1)]
theorem xo128_0 : x_cOk prog_2_method_6_code xc128_0 = true := x_cOk_w (by decide +kernel)
def xg128 : Nat → Option (Instr × Nat) := fun pc => x_at2 pc xc128_0
theorem xh128 : x_Good prog_2_method_6_code xg128 := by
  unfold xg128
  exact x_Good_l xo128_0
def xm128 : XM := (⟨"TwoDigits$Chip", "mostParting", "()I"⟩, prog_2_method_6_code, 3, some .int, 11, 11, 0, 0, 0, false, xg128)
def xc129_0 : List (Nat × Instr × Nat) := [(0, .iconst 0, 1), (1, .iload_n 1, 1), (2, .aload_n 0, 1), (3, .getfield 15, 3), (6, .invokestatic 38, 3), (9, .aload_n 0, 1), (10, .getfield 9, 3), (13, .isub, 1), (14, .iconst 1, 1), (15, .iadd, 1), (16, .invokestatic 43, 3), (19, .istore_n 2, 1), (20, .aload_n 0, 1), (21, .getfield 15, 3), (24, .aload_n 0, 1), (25, .getfield 9, 3), (28, .isub, 1), (29, .iconst 1, 1), (30, .iadd, 1), (31, .iload_n 2, 1), (32, .isub, 1), (33, .istore_n 3, 1), (34, .iload_n 2, 1), (35, .aload_n 0, 1), (36, .sipush 1900, 3), (39, .iload_n 1, 1), (40, .iadd, 1), (41, .invokevirtual 61, 3), (44, .imul, 1), (45, .iload_n 3, 1), (46, .aload_n 0, 1), (47, .sipush 2000, 3), (50, .iload_n 1, 1), (51, .iadd, 1), (52, .invokevirtual 61, 3), (55, .imul, 1), (56, .invokestatic 43, 3), (59, .ireturn, 1)]
theorem xo129_0 : x_cOk prog_2_method_7_code xc129_0 = true := x_cOk_w (by decide +kernel)
def xg129 : Nat → Option (Instr × Nat) := fun pc => x_at2 pc xc129_0
theorem xh129 : x_Good prog_2_method_7_code xg129 := by
  unfold xg129
  exact x_Good_l xo129_0
def xm129 : XM := (⟨"TwoDigits$Chip", "mostAlike", "(I)I"⟩, prog_2_method_7_code, 4, some .int, 11, 11, 1, 0, 0, false, xg129)
def xc130_0 : List (Nat × Instr × Nat) := [(0, .aload_n 0, 1), (1, .getfield 18, 3), (4, .iload_n 1, 1), (5, .invokestatic 46, 3), (8, .iand, 1), (9, .invokestatic 50, 3), (12, .istore_n 2, 1), (13, .iload_n 2, 1), (14, .aload_n 0, 1), (15, .getfield 18, 3), (18, .invokestatic 50, 3), (21, .iload_n 2, 1), (22, .isub, 1), (23, .invokestatic 43, 3), (26, .ireturn, 1)]
theorem xo130_0 : x_cOk prog_2_method_8_code xc130_0 = true := x_cOk_w (by decide +kernel)
def xg130 : Nat → Option (Instr × Nat) := fun pc => x_at2 pc xc130_0
theorem xh130 : x_Good prog_2_method_8_code xg130 := by
  unfold xg130
  exact x_Good_l xo130_0
def xm130 : XM := (⟨"TwoDigits$Chip", "mostRulesAlike", "(I)I"⟩, prog_2_method_8_code, 3, some .int, 11, 11, 1, 0, 0, false, xg130)
def xc131_0 : List (Nat × Instr × Nat) := [(0, .aload_n 0, 1), (1, .iload_n 1, 1), (2, .invokevirtual 117, 3), (5, .ifnull 13, 3), (8, .iload 4, 2), (10, .iconst 0, 1), (11, .iconst 5, 1), (12, .invokestatic 178, 3), (15, .ifCond .ne 5, 3), (18, .iconst (-1), 1), (19, .ireturn, 1), (20, .iload_n 2, 1), (21, .invokestatic 267, 3), (24, .ifCond .eq 17, 3), (27, .iload 5, 2), (29, .invokestatic 267, 3), (32, .ifCond .eq 9, 3), (35, .iload 5, 2), (37, .iload_n 2, 1), (38, .if_icmp .ge 6, 3), (41, .bipush (-2), 2), (43, .ireturn, 1), (44, .aload_n 0, 1), (45, .getfield 69, 3), (48, .iload_n 1, 1), (49, .iload_n 2, 1), (50, .iload_n 3, 1), (51, .ifCond .eq 7, 3), (54, .iconst 1, 1), (55, .goto 4, 3), (58, .iconst 0, 1), (59, .iload 4, 2), (61, .iload 5, 2), (63, .invokevirtual 291, 3), (66, .ireturn, 1)]
theorem xo131_0 : x_cOk prog_1_method_35_code xc131_0 = true := x_cOk_w (by decide +kernel)
def xg131 : Nat → Option (Instr × Nat) := fun pc => x_at2 pc xc131_0
theorem xh131 : x_Good prog_1_method_35_code xg131 := by
  unfold xg131
  exact x_Good_l xo131_0
def xm131 : XM := (⟨"TwoDigits", "sign", "(IIZII)I"⟩, prog_1_method_35_code, 6, some .int, 0, 0, 5, 0, 0, false, xg131)
def xc132_0 : List (Nat × Instr × Nat) := [(0, .aload_n 0, 1), (1, .iload_n 1, 1), (2, .invokevirtual 117, 3), (5, .ifnull 19, 3), (8, .iload_n 2, 1), (9, .iconst 0, 1), (10, .iconst 5, 1), (11, .invokestatic 178, 3), (14, .ifCond .eq 10, 3), (17, .iload_n 3, 1), (18, .invokestatic 267, 3), (21, .ifCond .ne 6, 3), (24, .bipush (-5), 2), (26, .ireturn, 1), (27, .iconst (-1), 1), (28, .istore 4, 2), (30, .iconst (-1), 1), (31, .istore 5, 2), (33, .iconst 0, 1), (34, .istore 6, 2), (36, .iload 6, 2), (38, .aload_n 0, 1), (39, .getfield 69, 3), (42, .getfield 354, 3), (45, .if_icmp .ge 102, 3), (48, .aload_n 0, 1), (49, .getfield 69, 3), (52, .iload 6, 2), (54, .iconst 0, 1), (55, .invokevirtual 296, 3), (58, .iload_n 1, 1), (59, .if_icmp .ne 35, 3), (62, .aload_n 0, 1), (63, .getfield 69, 3), (66, .iload 6, 2), (68, .iconst 3, 1), (69, .invokevirtual 296, 3), (72, .iload_n 2, 1), (73, .if_icmp .ne 21, 3), (76, .aload_n 0, 1), (77, .getfield 69, 3), (80, .iload 6, 2), (82, .iconst 4, 1), (83, .invokevirtual 296, 3), (86, .iload_n 3, 1), (87, .if_icmp .gt 7, 3), (90, .iconst 1, 1), (91, .goto 4, 3)]
theorem xo132_0 : x_cOk prog_1_method_36_code xc132_0 = true := x_cOk_w (by decide +kernel)
def xc132_1 : List (Nat × Instr × Nat) := [(94, .iconst 0, 1), (95, .istore 7, 2), (97, .iload 7, 2), (99, .ifCond .eq 42, 3), (102, .aload_n 0, 1), (103, .getfield 69, 3), (106, .iload 6, 2), (108, .iconst 1, 1), (109, .invokevirtual 296, 3), (112, .iload 4, 2), (114, .if_icmp .lt 27, 3), (117, .aload_n 0, 1), (118, .getfield 69, 3), (121, .iload 6, 2), (123, .iconst 1, 1), (124, .invokevirtual 296, 3), (127, .istore 4, 2), (129, .aload_n 0, 1), (130, .getfield 69, 3), (133, .iload 6, 2), (135, .iconst 2, 1), (136, .invokevirtual 296, 3), (139, .istore 5, 2), (141, .iinc 6 1, 3), (144, .goto (-108), 3), (147, .iload 5, 2), (149, .ireturn, 1)]
theorem xo132_1 : x_cOk prog_1_method_36_code xc132_1 = true := x_cOk_w (by decide +kernel)
def xg132 : Nat → Option (Instr × Nat) := fun pc => if pc < 94 then x_at2 pc xc132_0 else x_at2 pc xc132_1
theorem xh132 : x_Good prog_1_method_36_code xg132 := by
  unfold xg132
  exact x_Good_ite (x_Good_l xo132_0) (x_Good_l xo132_1)
def xm132 : XM := (⟨"TwoDigits", "knew", "(III)I"⟩, prog_1_method_36_code, 8, some .int, 0, 0, 3, 0, 0, false, xg132)
def xc133_0 : List (Nat × Instr × Nat) := [(0, .iload_n 1, 1), (1, .invokestatic 212, 3), (4, .ifCond .eq 18, 3), (7, .aload_n 0, 1), (8, .getfield 72, 3), (11, .iload_n 1, 1), (12, .iconst 0, 1), (13, .iconst 0, 1), (14, .iconst 0, 1), (15, .iconst 0, 1), (16, .invokevirtual 291, 3), (19, .goto 5, 3), (22, .bipush (-2), 2), (24, .ireturn, 1)]
theorem xo133_0 : x_cOk prog_1_method_37_code xc133_0 = true := x_cOk_w (by decide +kernel)
def xg133 : Nat → Option (Instr × Nat) := fun pc => x_at2 pc xc133_0
theorem xh133 : x_Good prog_1_method_37_code xg133 := by
  unfold xg133
  exact x_Good_l xo133_0
def xm133 : XM := (⟨"TwoDigits", "testYear", "(I)I"⟩, prog_1_method_37_code, 2, some .int, 0, 0, 1, 0, 0, false, xg133)
def xc134_0 : List (Nat × Instr × Nat) := [(0, .aload_n 0, 1), (1, .iload_n 1, 1), (2, .invokevirtual 117, 3), (5, .ifnull 10, 3), (8, .iload_n 2, 1), (9, .invokestatic 163, 3), (12, .ifCond .ne 5, 3), (15, .iconst (-1), 1), (16, .ireturn, 1), (17, .iload_n 3, 1), (18, .iload 4, 2), (20, .invokestatic 280, 3), (23, .ifCond .ne 6, 3), (26, .bipush (-2), 2), (28, .ireturn, 1), (29, .aload_n 0, 1), (30, .getfield 75, 3), (33, .iload_n 1, 1), (34, .iload_n 2, 1), (35, .iload_n 3, 1), (36, .iload 4, 2), (38, .iconst 0, 1), (39, .invokevirtual 291, 3), (42, .ireturn, 1)]
theorem xo134_0 : x_cOk prog_1_method_38_code xc134_0 = true := x_cOk_w (by decide +kernel)
def xg134 : Nat → Option (Instr × Nat) := fun pc => x_at2 pc xc134_0
theorem xh134 : x_Good prog_1_method_38_code xg134 := by
  unfold xg134
  exact x_Good_l xo134_0
def xm134 : XM := (⟨"TwoDigits", "fault", "(IIII)I"⟩, prog_1_method_38_code, 5, some .int, 0, 0, 4, 0, 0, false, xg134)
def xc135_0 : List (Nat × Instr × Nat) := [(0, .aload_n 0, 1), (1, .getfield 72, 3), (4, .iload_n 1, 1), (5, .iconst 0, 1), (6, .invokevirtual 294, 3), (9, .ifCond .eq 15, 3), (12, .aload_n 0, 1), (13, .getfield 75, 3), (16, .iload_n 2, 1), (17, .iconst 0, 1), (18, .invokevirtual 294, 3), (21, .ifCond .ne 5, 3), (24, .iconst (-1), 1), (25, .ireturn, 1), (26, .aload_n 0, 1), (27, .iload_n 1, 1), (28, .iload_n 2, 1), (29, .invokevirtual 355, 3), (32, .ifCond .eq 7, 3), (35, .iconst 1, 1), (36, .goto 4, 3), (39, .iconst 0, 1), (40, .ireturn, 1)]
theorem xo135_0 : x_cOk prog_1_method_39_code xc135_0 = true := x_cOk_w (by decide +kernel)
def xg135 : Nat → Option (Instr × Nat) := fun pc => x_at2 pc xc135_0
theorem xh135 : x_Good prog_1_method_39_code xg135 := by
  unfold xg135
  exact x_Good_l xo135_0
def xm135 : XM := (⟨"TwoDigits", "shows", "(II)I"⟩, prog_1_method_39_code, 3, some .int, 0, 0, 2, 0, 0, false, xg135)
def xc136_0 : List (Nat × Instr × Nat) := [(0, .aload_n 0, 1), (1, .aload_n 0, 1), (2, .getfield 75, 3), (5, .iload_n 2, 1), (6, .iconst 0, 1), (7, .invokevirtual 296, 3), (10, .invokevirtual 117, 3), (13, .astore_n 3, 1), (14, .aload_n 0, 1), (15, .getfield 75, 3), (18, .iload_n 2, 1), (19, .iconst 1, 1), (20, .invokevirtual 296, 3), (23, .istore 4, 2), (25, .aload_n 3, 1), (26, .ifnull 11, 3), (29, .iload 4, 2), (31, .invokestatic 163, 3), (34, .ifCond .ne 5, 3), (37, .iconst 0, 1), (38, .ireturn, 1), (39, .aload_n 0, 1), (40, .aload_n 3, 1), (41, .iload 4, 2), (43, .aload_n 0, 1), (44, .getfield 75, 3), (47, .iload_n 2, 1), (48, .iconst 2, 1), (49, .invokevirtual 296, 3), (52, .aload_n 0, 1), (53, .getfield 75, 3), (56, .iload_n 2, 1), (57, .iconst 3, 1), (58, .invokevirtual 296, 3), (61, .invokevirtual 298, 3), (64, .aload_n 0, 1), (65, .aload_n 3, 1), (66, .aload_n 0, 1), (67, .getfield 72, 3), (70, .iload_n 1, 1), (71, .iconst 0, 1), (72, .invokevirtual 296, 3), (75, .invokevirtual 302, 3), (78, .ifCond .eq 7, 3), (81, .iconst 1, 1), (82, .goto 4, 3), (85, .iconst 0, 1), (86, .ireturn, 1)]
theorem xo136_0 : x_cOk prog_1_method_40_code xc136_0 = true := x_cOk_w (by decide +kernel)
def xg136 : Nat → Option (Instr × Nat) := fun pc => x_at2 pc xc136_0
theorem xh136 : x_Good prog_1_method_40_code xg136 := by
  unfold xg136
  exact x_Good_l xo136_0
def xm136 : XM := (⟨"TwoDigits", "isShown", "(II)Z"⟩, prog_1_method_40_code, 5, some .boolean, 0, 0, 2, 0, 0, false, xg136)
def xc137_0 : List (Nat × Instr × Nat) := [(0, .iload_n 1, 1), (1, .ifCond .lt 8, 3), (4, .iload_n 1, 1), (5, .iconst 1, 1), (6, .if_icmp .le 5, 3), (9, .iconst (-1), 1), (10, .ireturn, 1), (11, .iconst 0, 1), (12, .istore_n 2, 1), (13, .iload_n 2, 1), (14, .aload_n 0, 1), (15, .getfield 72, 3), (18, .getfield 354, 3), (21, .if_icmp .ge 63, 3), (24, .iconst 0, 1), (25, .istore_n 3, 1), (26, .iconst 0, 1), (27, .istore 4, 2), (29, .iload 4, 2), (31, .aload_n 0, 1), (32, .getfield 75, 3), (35, .getfield 354, 3), (38, .if_icmp .ge 30, 3), (41, .iload_n 3, 1), (42, .aload_n 0, 1), (43, .iload_n 2, 1), (44, .iload 4, 2), (46, .invokevirtual 355, 3), (49, .ifCond .eq 10, 3), (52, .iconst 1, 1), (53, .iload 4, 2), (55, .ishl, 1), (56, .goto 4, 3), (59, .iconst 0, 1), (60, .ior, 1), (61, .istore_n 3, 1), (62, .iinc 4 1, 3), (65, .goto (-36), 3), (68, .aload_n 0, 1), (69, .getfield 72, 3), (72, .iload_n 2, 1), (73, .iconst 1, 1), (74, .iload_n 3, 1), (75, .invokevirtual 358, 3), (78, .iinc 2 1, 3), (81, .goto (-68), 3), (84, .aload_n 0, 1), (85, .iconst (-1), 1)]
theorem xo137_0 : x_cOk prog_1_method_41_code xc137_0 = true := x_cOk_w (by decide +kernel)
def xc137_1 : List (Nat × Instr × Nat) := [(86, .invokevirtual 361, 3), (89, .istore_n 2, 1), (90, .iload_n 1, 1), (91, .ifCond .ne 11, 3), (94, .aload_n 0, 1), (95, .iload_n 2, 1), (96, .invokevirtual 364, 3), (99, .goto 7, 3), (102, .iload_n 2, 1), (103, .invokestatic 367, 3), (106, .ireturn, 1)]
theorem xo137_1 : x_cOk prog_1_method_41_code xc137_1 = true := x_cOk_w (by decide +kernel)
def xg137 : Nat → Option (Instr × Nat) := fun pc => if pc < 86 then x_at2 pc xc137_0 else x_at2 pc xc137_1
theorem xh137 : x_Good prog_1_method_41_code xg137 := by
  unfold xg137
  exact x_Good_ite (x_Good_l xo137_0) (x_Good_l xo137_1)
def xm137 : XM := (⟨"TwoDigits", "cover", "(I)I"⟩, prog_1_method_41_code, 5, some .int, 0, 0, 1, 0, 0, false, xg137)
def xc138_0 : List (Nat × Instr × Nat) := [(0, .iconst 0, 1), (1, .istore_n 2, 1), (2, .iconst 0, 1), (3, .istore_n 3, 1), (4, .iload_n 3, 1), (5, .aload_n 0, 1), (6, .getfield 72, 3), (9, .getfield 354, 3), (12, .if_icmp .ge 29, 3), (15, .iload_n 1, 1), (16, .iload_n 3, 1), (17, .invokestatic 247, 3), (20, .ifCond .eq 15, 3), (23, .iload_n 2, 1), (24, .aload_n 0, 1), (25, .getfield 72, 3), (28, .iload_n 3, 1), (29, .iconst 1, 1), (30, .invokevirtual 296, 3), (33, .ior, 1), (34, .istore_n 2, 1), (35, .iinc 3 1, 3), (38, .goto (-34), 3), (41, .iload_n 2, 1), (42, .ireturn, 1)]
theorem xo138_0 : x_cOk prog_1_method_42_code xc138_0 = true := x_cOk_w (by decide +kernel)
def xg138 : Nat → Option (Instr × Nat) := fun pc => x_at2 pc xc138_0
theorem xh138 : x_Good prog_1_method_42_code xg138 := by
  unfold xg138
  exact x_Good_l xo138_0
def xm138 : XM := (⟨"TwoDigits", "faultsShown", "(I)I"⟩, prog_1_method_42_code, 4, some .int, 0, 0, 1, 0, 0, false, xg138)
def xc139_0 : List (Nat × Instr × Nat) := [(0, .iconst 1, 1), (1, .aload_n 0, 1), (2, .getfield 72, 3), (5, .getfield 354, 3), (8, .ishl, 1), (9, .iconst 1, 1), (10, .isub, 1), (11, .istore_n 2, 1), (12, .iload_n 2, 1), (13, .iconst 1, 1), (14, .isub, 1), (15, .istore_n 3, 1), (16, .iload_n 3, 1), (17, .ifCond .lt 31, 3), (20, .iload_n 3, 1), (21, .invokestatic 367, 3), (24, .iload_n 2, 1), (25, .invokestatic 367, 3), (28, .if_icmp .gt 14, 3), (31, .aload_n 0, 1), (32, .iload_n 3, 1), (33, .invokevirtual 361, 3), (36, .iload_n 1, 1), (37, .if_icmp .ne 5, 3), (40, .iload_n 3, 1), (41, .istore_n 2, 1), (42, .iinc 3 (-1), 3), (45, .goto (-29), 3), (48, .iload_n 2, 1), (49, .ireturn, 1)]
theorem xo139_0 : x_cOk prog_1_method_43_code xc139_0 = true := x_cOk_w (by decide +kernel)
def xg139 : Nat → Option (Instr × Nat) := fun pc => x_at2 pc xc139_0
theorem xh139 : x_Good prog_1_method_43_code xg139 := by
  unfold xg139
  exact x_Good_l xo139_0
def xm139 : XM := (⟨"TwoDigits", "fewestTests", "(I)I"⟩, prog_1_method_43_code, 4, some .int, 0, 0, 1, 0, 0, false, xg139)
def xc140_0 : List (Nat × Instr × Nat) := [(0, .iload_n 1, 1), (1, .ifCond .lt 13, 3), (4, .iload_n 1, 1), (5, .iconst 1, 1), (6, .aload_n 0, 1), (7, .getfield 107, 3), (10, .ishl, 1), (11, .if_icmp .lt 7, 3), (14, .iconst 1, 1), (15, .goto 4, 3), (18, .iconst 0, 1), (19, .istore 5, 2), (21, .iload 4, 2), (23, .ifCond .lt 14, 3), (26, .iload 4, 2), (28, .iconst 2, 1), (29, .if_icmp .gt 8, 3), (32, .iload 5, 2), (34, .ifCond .eq 5, 3), (37, .iconst (-1), 1), (38, .ireturn, 1), (39, .iload_n 1, 1), (40, .invokestatic 367, 3), (43, .bipush 8, 2), (45, .if_icmp .gt 17, 3), (48, .iload_n 2, 1), (49, .invokestatic 267, 3), (52, .ifCond .eq 10, 3), (55, .iload_n 3, 1), (56, .invokestatic 212, 3), (59, .ifCond .ne 6, 3), (62, .bipush (-2), 2), (64, .ireturn, 1), (65, .aload_n 0, 1), (66, .iload_n 3, 1), (67, .iconst 0, 1), (68, .invokevirtual 372, 3), (71, .aload_n 0, 1), (72, .iload_n 1, 1), (73, .iload_n 2, 1), (74, .iload_n 3, 1), (75, .invokevirtual 376, 3), (78, .istore 6, 2), (80, .iload 4, 2), (82, .lookupswitch 38 #[(0, 26), (1, 35)], 26), (108, .aload_n 0, 1), (109, .iload 6, 2), (111, .iload_n 3, 1)]
theorem xo140_0 : x_cOk prog_1_method_44_code xc140_0 = true := x_cOk_w (by decide +kernel)
def xc140_1 : List (Nat × Instr × Nat) := [(112, .iconst 0, 1), (113, .invokevirtual 380, 3), (116, .ireturn, 1), (117, .iload 6, 2), (119, .ireturn, 1), (120, .aload_n 0, 1), (121, .iload 6, 2), (123, .invokevirtual 384, 3), (126, .ireturn, 1)]
theorem xo140_1 : x_cOk prog_1_method_44_code xc140_1 = true := x_cOk_w (by decide +kernel)
def xg140 : Nat → Option (Instr × Nat) := fun pc => if pc < 112 then x_at2 pc xc140_0 else x_at2 pc xc140_1
theorem xh140 : x_Good prog_1_method_44_code xg140 := by
  unfold xg140
  exact x_Good_ite (x_Good_l xo140_0) (x_Good_l xo140_1)
def xm140 : XM := (⟨"TwoDigits", "first", "(IIII)I"⟩, prog_1_method_44_code, 7, some .int, 0, 0, 4, 0, 0, false, xg140)
end XCode3
