/-! p25: the instructions on the ways. -/
noncomputable section XH25
set_option maxRecDepth 1000000 in
theorem g_q35 : tMth x_tb 35 = some xm35 := rfl
set_option maxRecDepth 1000000 in
theorem g_q48 : tMth x_tb 48 = some xm48 := rfl
set_option maxRecDepth 1000000 in
theorem g_q63 : tMth x_tb 63 = some xm63 := rfl
set_option maxRecDepth 1000000 in
theorem g_q78 : tMth x_tb 78 = some xm78 := rfl
set_option maxRecDepth 1000000 in
theorem g_q80 : tMth x_tb 80 = some xm80 := rfl
set_option maxRecDepth 1000000 in
theorem g_q87 : tMth x_tb 87 = some xm87 := rfl
set_option maxRecDepth 1000000 in
theorem g_q117 : tMth x_tb 117 = some xm117 := rfl
set_option maxRecDepth 1000000 in
theorem g_q118 : tMth x_tb 118 = some xm118 := rfl
set_option maxRecDepth 1000000 in
theorem g_q119 : tMth x_tb 119 = some xm119 := rfl
set_option maxRecDepth 1000000 in
theorem g_q120 : tMth x_tb 120 = some xm120 := rfl
set_option maxRecDepth 1000000 in
theorem g_q121 : tMth x_tb 121 = some xm121 := rfl
set_option maxRecDepth 1000000 in
theorem g_q123 : tMth x_tb 123 = some xm123 := rfl
set_option maxRecDepth 1000000 in
theorem g_q124 : tMth x_tb 124 = some xm124 := rfl
set_option maxRecDepth 1000000 in
theorem g_q125 : tMth x_tb 125 = some xm125 := rfl
set_option maxRecDepth 1000000 in
theorem g_q126 : tMth x_tb 126 = some xm126 := rfl
set_option maxRecDepth 1000000 in
theorem g_q127 : tMth x_tb 127 = some xm127 := rfl
set_option maxRecDepth 1000000 in
theorem g_q128 : tMth x_tb 128 = some xm128 := rfl
set_option maxRecDepth 1000000 in
theorem g_q129 : tMth x_tb 129 = some xm129 := rfl
set_option maxRecDepth 1000000 in
theorem g_q130 : tMth x_tb 130 = some xm130 := rfl
set_option maxRecDepth 1000000 in
theorem g_q181 : tMth x_tb 181 = some xm181 := rfl
set_option maxRecDepth 1000000 in
theorem g_q196 : tMth x_tb 196 = some xm196 := rfl
set_option maxRecDepth 1000000 in
theorem g_q197 : tMth x_tb 197 = some xm197 := rfl
set_option maxRecDepth 1000000 in
theorem g_q199 : tMth x_tb 199 = some xm199 := rfl
set_option maxRecDepth 1000000 in
theorem g_q250 : tMth x_tb 250 = some xm250 := rfl
set_option maxRecDepth 1000000 in
theorem g_q251 : tMth x_tb 251 = some xm251 := rfl
set_option maxRecDepth 1000000 in
theorem g_q252 : tMth x_tb 252 = some xm252 := rfl
set_option maxRecDepth 1000000 in
theorem g_q253 : tMth x_tb 253 = some xm253 := rfl
set_option maxRecDepth 1000000 in
theorem g_q254 : tMth x_tb 254 = some xm254 := rfl
set_option maxRecDepth 1000000 in
theorem g_q255 : tMth x_tb 255 = some xm255 := rfl
theorem g35_0 : mC xm35 0 = some (.iload_n 0, 1) := by decide +kernel
theorem g35_1 : mC xm35 1 = some (.iload_n 1, 1) := by decide +kernel
theorem g35_2 : mC xm35 2 = some (.if_icmp .lt 12, 3) := by decide +kernel
theorem g35_5 : mC xm35 5 = some (.iload_n 0, 1) := by decide +kernel
theorem g35_6 : mC xm35 6 = some (.iload_n 2, 1) := by decide +kernel
theorem g35_7 : mC xm35 7 = some (.if_icmp .gt 7, 3) := by decide +kernel
theorem g35_10 : mC xm35 10 = some (.iconst 1, 1) := by decide +kernel
theorem g35_11 : mC xm35 11 = some (.goto 4, 3) := by decide +kernel
theorem g35_14 : mC xm35 14 = some (.iconst 0, 1) := by decide +kernel
theorem g35_15 : mC xm35 15 = some (.ireturn, 1) := by decide +kernel
theorem g48_0 : mC xm48 0 = some (.iload_n 1, 1) := by decide +kernel
theorem g48_1 : mC xm48 1 = some (.ifCond .lt 22, 3) := by decide +kernel
theorem g48_4 : mC xm48 4 = some (.iload_n 1, 1) := by decide +kernel
theorem g48_5 : mC xm48 5 = some (.bipush 32, 2) := by decide +kernel
theorem g48_7 : mC xm48 7 = some (.if_icmp .ge 16, 3) := by decide +kernel
theorem g48_10 : mC xm48 10 = some (.iload_n 0, 1) := by decide +kernel
theorem g48_11 : mC xm48 11 = some (.iload_n 1, 1) := by decide +kernel
theorem g48_12 : mC xm48 12 = some (.ishr, 1) := by decide +kernel
theorem g48_13 : mC xm48 13 = some (.iconst 1, 1) := by decide +kernel
theorem g48_14 : mC xm48 14 = some (.iand, 1) := by decide +kernel
theorem g48_15 : mC xm48 15 = some (.iconst 1, 1) := by decide +kernel
theorem g48_16 : mC xm48 16 = some (.if_icmp .ne 7, 3) := by decide +kernel
theorem g48_19 : mC xm48 19 = some (.iconst 1, 1) := by decide +kernel
theorem g48_20 : mC xm48 20 = some (.goto 4, 3) := by decide +kernel
theorem g48_23 : mC xm48 23 = some (.iconst 0, 1) := by decide +kernel
theorem g48_24 : mC xm48 24 = some (.ireturn, 1) := by decide +kernel
theorem g63_0 : mC xm63 0 = some (.iload_n 0, 1) := by decide +kernel
theorem g63_1 : mC xm63 1 = some (.sipush 1900, 3) := by decide +kernel
theorem g63_4 : mC xm63 4 = some (.sipush 2099, 3) := by decide +kernel
theorem g63_7 : mC xm63 7 = some (.invokestatic 178, 3) := by decide +kernel
theorem g63_10 : mC xm63 10 = some (.ireturn, 1) := by decide +kernel
theorem g78_0 : mC xm78 0 = some (.iload_n 0, 1) := by decide +kernel
theorem g78_1 : mC xm78 1 = some (.iload_n 1, 1) := by decide +kernel
theorem g78_2 : mC xm78 2 = some (.if_icmp .lt 11, 3) := by decide +kernel
theorem g78_5 : mC xm78 5 = some (.sipush 1900, 3) := by decide +kernel
theorem g78_8 : mC xm78 8 = some (.iload_n 0, 1) := by decide +kernel
theorem g78_9 : mC xm78 9 = some (.iadd, 1) := by decide +kernel
theorem g78_10 : mC xm78 10 = some (.goto 8, 3) := by decide +kernel
theorem g78_13 : mC xm78 13 = some (.sipush 2000, 3) := by decide +kernel
theorem g78_16 : mC xm78 16 = some (.iload_n 0, 1) := by decide +kernel
theorem g78_17 : mC xm78 17 = some (.iadd, 1) := by decide +kernel
theorem g78_18 : mC xm78 18 = some (.ireturn, 1) := by decide +kernel
theorem g80_0 : mC xm80 0 = some (.iload_n 0, 1) := by decide +kernel
theorem g80_1 : mC xm80 1 = some (.iconst 4, 1) := by decide +kernel
theorem g80_2 : mC xm80 2 = some (.irem, 1) := by decide +kernel
theorem g80_3 : mC xm80 3 = some (.ifCond .ne 7, 3) := by decide +kernel
theorem g80_6 : mC xm80 6 = some (.iconst 1, 1) := by decide +kernel
theorem g80_7 : mC xm80 7 = some (.goto 4, 3) := by decide +kernel
theorem g80_10 : mC xm80 10 = some (.iconst 0, 1) := by decide +kernel
theorem g80_11 : mC xm80 11 = some (.istore_n 2, 1) := by decide +kernel
theorem g80_12 : mC xm80 12 = some (.iload_n 1, 1) := by decide +kernel
theorem g80_13 : mC xm80 13 = some (.lookupswitch (46) #[(0, (27)), (1, (29))], 27) := by decide +kernel
theorem g80_40 : mC xm80 40 = some (.iload_n 2, 1) := by decide +kernel
theorem g80_41 : mC xm80 41 = some (.ireturn, 1) := by decide +kernel
theorem g80_42 : mC xm80 42 = some (.iload_n 2, 1) := by decide +kernel
theorem g80_43 : mC xm80 43 = some (.ifCond .eq 14, 3) := by decide +kernel
theorem g80_46 : mC xm80 46 = some (.iload_n 0, 1) := by decide +kernel
theorem g80_47 : mC xm80 47 = some (.bipush 100, 2) := by decide +kernel
theorem g80_49 : mC xm80 49 = some (.irem, 1) := by decide +kernel
theorem g80_50 : mC xm80 50 = some (.ifCond .eq 7, 3) := by decide +kernel
theorem g80_53 : mC xm80 53 = some (.iconst 1, 1) := by decide +kernel
theorem g80_54 : mC xm80 54 = some (.goto 4, 3) := by decide +kernel
theorem g80_57 : mC xm80 57 = some (.iconst 0, 1) := by decide +kernel
theorem g80_58 : mC xm80 58 = some (.ireturn, 1) := by decide +kernel
theorem g80_59 : mC xm80 59 = some (.iload_n 2, 1) := by decide +kernel
theorem g80_60 : mC xm80 60 = some (.ifCond .eq 22, 3) := by decide +kernel
theorem g80_63 : mC xm80 63 = some (.iload_n 0, 1) := by decide +kernel
theorem g80_64 : mC xm80 64 = some (.bipush 100, 2) := by decide +kernel
theorem g80_66 : mC xm80 66 = some (.irem, 1) := by decide +kernel
theorem g80_67 : mC xm80 67 = some (.ifCond .ne 11, 3) := by decide +kernel
theorem g80_70 : mC xm80 70 = some (.iload_n 0, 1) := by decide +kernel
theorem g80_71 : mC xm80 71 = some (.sipush 400, 3) := by decide +kernel
theorem g80_74 : mC xm80 74 = some (.irem, 1) := by decide +kernel
theorem g80_75 : mC xm80 75 = some (.ifCond .ne 7, 3) := by decide +kernel
theorem g80_78 : mC xm80 78 = some (.iconst 1, 1) := by decide +kernel
theorem g80_79 : mC xm80 79 = some (.goto 4, 3) := by decide +kernel
theorem g80_82 : mC xm80 82 = some (.iconst 0, 1) := by decide +kernel
theorem g80_83 : mC xm80 83 = some (.ireturn, 1) := by decide +kernel
theorem g87_0 : mC xm87 0 = some (.iload_n 0, 1) := by decide +kernel
theorem g87_1 : mC xm87 1 = some (.iconst 0, 1) := by decide +kernel
theorem g87_2 : mC xm87 2 = some (.iconst 2, 1) := by decide +kernel
theorem g87_3 : mC xm87 3 = some (.invokestatic 178, 3) := by decide +kernel
theorem g87_6 : mC xm87 6 = some (.ireturn, 1) := by decide +kernel
theorem g117_0 : mC xm117 0 = some (.iload_n 1, 1) := by decide +kernel
theorem g117_1 : mC xm117 1 = some (.iconst 0, 1) := by decide +kernel
theorem g117_2 : mC xm117 2 = some (.bipush 100, 2) := by decide +kernel
theorem g117_4 : mC xm117 4 = some (.invokestatic 178, 3) := by decide +kernel
theorem g117_7 : mC xm117 7 = some (.ifCond .eq 10, 3) := by decide +kernel
theorem g117_10 : mC xm117 10 = some (.iload_n 2, 1) := by decide +kernel
theorem g117_11 : mC xm117 11 = some (.invokestatic 234, 3) := by decide +kernel
theorem g117_14 : mC xm117 14 = some (.ifCond .ne 6, 3) := by decide +kernel
theorem g117_17 : mC xm117 17 = some (.bipush (-2), 2) := by decide +kernel
theorem g117_19 : mC xm117 19 = some (.ireturn, 1) := by decide +kernel
theorem g117_20 : mC xm117 20 = some (.aload_n 0, 1) := by decide +kernel
theorem g117_21 : mC xm117 21 = some (.getfield 328, 3) := by decide +kernel
theorem g117_24 : mC xm117 24 = some (.bipush 6, 2) := by decide +kernel
theorem g117_26 : mC xm117 26 = some (.if_icmp .lt 6, 3) := by decide +kernel
theorem g117_29 : mC xm117 29 = some (.bipush (-4), 2) := by decide +kernel
theorem g117_31 : mC xm117 31 = some (.ireturn, 1) := by decide +kernel
theorem g117_32 : mC xm117 32 = some (.aload_n 0, 1) := by decide +kernel
theorem g117_33 : mC xm117 33 = some (.getfield 65, 3) := by decide +kernel
theorem g117_36 : mC xm117 36 = some (.aload_n 0, 1) := by decide +kernel
theorem g117_37 : mC xm117 37 = some (.getfield 328, 3) := by decide +kernel
theorem g117_40 : mC xm117 40 = some (.new 63, 3) := by decide +kernel
theorem g117_43 : mC xm117 43 = some (.dup, 1) := by decide +kernel
theorem g117_44 : mC xm117 44 = some (.iload_n 1, 1) := by decide +kernel
theorem g117_45 : mC xm117 45 = some (.iload_n 2, 1) := by decide +kernel
theorem g117_46 : mC xm117 46 = some (.invokespecial 331, 3) := by decide +kernel
theorem g117_49 : mC xm117 49 = some (.aastore, 1) := by decide +kernel
theorem g117_50 : mC xm117 50 = some (.aload_n 0, 1) := by decide +kernel
theorem g117_51 : mC xm117 51 = some (.dup, 1) := by decide +kernel
theorem g117_52 : mC xm117 52 = some (.getfield 328, 3) := by decide +kernel
theorem g117_55 : mC xm117 55 = some (.iconst 1, 1) := by decide +kernel
theorem g117_56 : mC xm117 56 = some (.iadd, 1) := by decide +kernel
theorem g117_57 : mC xm117 57 = some (.putfield 328, 3) := by decide +kernel
theorem g117_60 : mC xm117 60 = some (.aload_n 0, 1) := by decide +kernel
theorem g117_61 : mC xm117 61 = some (.getfield 328, 3) := by decide +kernel
theorem g117_64 : mC xm117 64 = some (.iconst 1, 1) := by decide +kernel
theorem g117_65 : mC xm117 65 = some (.isub, 1) := by decide +kernel
theorem g117_66 : mC xm117 66 = some (.ireturn, 1) := by decide +kernel
theorem g118_0 : mC xm118 0 = some (.aload_n 0, 1) := by decide +kernel
theorem g118_1 : mC xm118 1 = some (.invokespecial 3, 3) := by decide +kernel
theorem g118_4 : mC xm118 4 = some (.aload_n 0, 1) := by decide +kernel
theorem g118_5 : mC xm118 5 = some (.iconst 0, 1) := by decide +kernel
theorem g118_6 : mC xm118 6 = some (.putfield 9, 3) := by decide +kernel
theorem g118_9 : mC xm118 9 = some (.aload_n 0, 1) := by decide +kernel
theorem g118_10 : mC xm118 10 = some (.bipush 100, 2) := by decide +kernel
theorem g118_12 : mC xm118 12 = some (.putfield 15, 3) := by decide +kernel
theorem g118_15 : mC xm118 15 = some (.aload_n 0, 1) := by decide +kernel
theorem g118_16 : mC xm118 16 = some (.bipush 7, 2) := by decide +kernel
theorem g118_18 : mC xm118 18 = some (.putfield 18, 3) := by decide +kernel
theorem g118_21 : mC xm118 21 = some (.aload_n 0, 1) := by decide +kernel
theorem g118_22 : mC xm118 22 = some (.iload_n 1, 1) := by decide +kernel
theorem g118_23 : mC xm118 23 = some (.putfield 21, 3) := by decide +kernel
theorem g118_26 : mC xm118 26 = some (.aload_n 0, 1) := by decide +kernel
theorem g118_27 : mC xm118 27 = some (.iload_n 2, 1) := by decide +kernel
theorem g118_28 : mC xm118 28 = some (.putfield 24, 3) := by decide +kernel
theorem g118_31 : mC xm118 31 = some (.return_, 1) := by decide +kernel
theorem g119_0 : mC xm119 0 = some (.aload_n 0, 1) := by decide +kernel
theorem g119_1 : mC xm119 1 = some (.iload_n 1, 1) := by decide +kernel
theorem g119_2 : mC xm119 2 = some (.invokevirtual 332, 3) := by decide +kernel
theorem g119_5 : mC xm119 5 = some (.astore_n 3, 1) := by decide +kernel
theorem g119_6 : mC xm119 6 = some (.aload_n 3, 1) := by decide +kernel
theorem g119_7 : mC xm119 7 = some (.ifnonnull 5, 3) := by decide +kernel
theorem g119_10 : mC xm119 10 = some (.iconst (-1), 1) := by decide +kernel
theorem g119_11 : mC xm119 11 = some (.ireturn, 1) := by decide +kernel
theorem g119_12 : mC xm119 12 = some (.iload_n 2, 1) := by decide +kernel
theorem g119_13 : mC xm119 13 = some (.invokestatic 212, 3) := by decide +kernel
theorem g119_16 : mC xm119 16 = some (.ifCond .ne 6, 3) := by decide +kernel
theorem g119_19 : mC xm119 19 = some (.bipush (-2), 2) := by decide +kernel
theorem g119_21 : mC xm119 21 = some (.ireturn, 1) := by decide +kernel
theorem g119_22 : mC xm119 22 = some (.aload_n 3, 1) := by decide +kernel
theorem g119_23 : mC xm119 23 = some (.getfield 336, 3) := by decide +kernel
theorem g119_26 : mC xm119 26 = some (.bipush 30, 2) := by decide +kernel
theorem g119_28 : mC xm119 28 = some (.if_icmp .lt 6, 3) := by decide +kernel
theorem g119_31 : mC xm119 31 = some (.bipush (-4), 2) := by decide +kernel
theorem g119_33 : mC xm119 33 = some (.ireturn, 1) := by decide +kernel
theorem g119_34 : mC xm119 34 = some (.aload_n 3, 1) := by decide +kernel
theorem g119_35 : mC xm119 35 = some (.iload_n 2, 1) := by decide +kernel
theorem g119_36 : mC xm119 36 = some (.bipush 100, 2) := by decide +kernel
theorem g119_38 : mC xm119 38 = some (.irem, 1) := by decide +kernel
theorem g119_39 : mC xm119 39 = some (.invokevirtual 339, 3) := by decide +kernel
theorem g119_42 : mC xm119 42 = some (.ireturn, 1) := by decide +kernel
theorem g120_0 : mC xm120 0 = some (.iload_n 1, 1) := by decide +kernel
theorem g120_1 : mC xm120 1 = some (.ifCond .lt 20, 3) := by decide +kernel
theorem g120_4 : mC xm120 4 = some (.iload_n 1, 1) := by decide +kernel
theorem g120_5 : mC xm120 5 = some (.aload_n 0, 1) := by decide +kernel
theorem g120_6 : mC xm120 6 = some (.getfield 328, 3) := by decide +kernel
theorem g120_9 : mC xm120 9 = some (.if_icmp .ge 12, 3) := by decide +kernel
theorem g120_12 : mC xm120 12 = some (.aload_n 0, 1) := by decide +kernel
theorem g120_13 : mC xm120 13 = some (.getfield 65, 3) := by decide +kernel
theorem g120_16 : mC xm120 16 = some (.iload_n 1, 1) := by decide +kernel
theorem g120_17 : mC xm120 17 = some (.aaload, 1) := by decide +kernel
theorem g120_18 : mC xm120 18 = some (.goto 4, 3) := by decide +kernel
theorem g120_21 : mC xm120 21 = some (.aconst_null, 1) := by decide +kernel
theorem g120_22 : mC xm120 22 = some (.areturn, 1) := by decide +kernel
theorem g121_0 : mC xm121 0 = some (.aload_n 0, 1) := by decide +kernel
theorem g121_1 : mC xm121 1 = some (.dup, 1) := by decide +kernel
theorem g121_2 : mC xm121 2 = some (.getfield 27, 3) := by decide +kernel
theorem g121_5 : mC xm121 5 = some (.iconst 1, 1) := by decide +kernel
theorem g121_6 : mC xm121 6 = some (.iadd, 1) := by decide +kernel
theorem g121_7 : mC xm121 7 = some (.putfield 27, 3) := by decide +kernel
theorem g121_10 : mC xm121 10 = some (.iload_n 1, 1) := by decide +kernel
theorem g121_11 : mC xm121 11 = some (.aload_n 0, 1) := by decide +kernel
theorem g121_12 : mC xm121 12 = some (.getfield 21, 3) := by decide +kernel
theorem g121_15 : mC xm121 15 = some (.invokestatic 30, 3) := by decide +kernel
theorem g121_18 : mC xm121 18 = some (.istore_n 2, 1) := by decide +kernel
theorem g121_19 : mC xm121 19 = some (.iload_n 2, 1) := by decide +kernel
theorem g121_20 : mC xm121 20 = some (.aload_n 0, 1) := by decide +kernel
theorem g121_21 : mC xm121 21 = some (.getfield 24, 3) := by decide +kernel
theorem g121_24 : mC xm121 24 = some (.invokestatic 34, 3) := by decide +kernel
theorem g121_27 : mC xm121 27 = some (.istore_n 3, 1) := by decide +kernel
theorem g121_28 : mC xm121 28 = some (.iload_n 1, 1) := by decide +kernel
theorem g121_29 : mC xm121 29 = some (.aload_n 0, 1) := by decide +kernel
theorem g121_30 : mC xm121 30 = some (.getfield 21, 3) := by decide +kernel
theorem g121_33 : mC xm121 33 = some (.if_icmp .lt 18, 3) := by decide +kernel
theorem g121_36 : mC xm121 36 = some (.aload_n 0, 1) := by decide +kernel
theorem g121_37 : mC xm121 37 = some (.aload_n 0, 1) := by decide +kernel
theorem g121_38 : mC xm121 38 = some (.getfield 15, 3) := by decide +kernel
theorem g121_41 : mC xm121 41 = some (.iload_n 1, 1) := by decide +kernel
theorem g121_42 : mC xm121 42 = some (.invokestatic 38, 3) := by decide +kernel
theorem g121_45 : mC xm121 45 = some (.putfield 15, 3) := by decide +kernel
theorem g121_48 : mC xm121 48 = some (.goto 17, 3) := by decide +kernel
theorem g121_51 : mC xm121 51 = some (.aload_n 0, 1) := by decide +kernel
theorem g121_52 : mC xm121 52 = some (.aload_n 0, 1) := by decide +kernel
theorem g121_53 : mC xm121 53 = some (.getfield 9, 3) := by decide +kernel
theorem g121_56 : mC xm121 56 = some (.iload_n 1, 1) := by decide +kernel
theorem g121_57 : mC xm121 57 = some (.iconst 1, 1) := by decide +kernel
theorem g121_58 : mC xm121 58 = some (.iadd, 1) := by decide +kernel
theorem g121_59 : mC xm121 59 = some (.invokestatic 43, 3) := by decide +kernel
theorem g121_62 : mC xm121 62 = some (.putfield 9, 3) := by decide +kernel
theorem g121_65 : mC xm121 65 = some (.aload_n 0, 1) := by decide +kernel
theorem g121_66 : mC xm121 66 = some (.dup, 1) := by decide +kernel
theorem g121_67 : mC xm121 67 = some (.getfield 18, 3) := by decide +kernel
theorem g121_70 : mC xm121 70 = some (.iload_n 3, 1) := by decide +kernel
theorem g121_71 : mC xm121 71 = some (.ifCond .eq 10, 3) := by decide +kernel
theorem g121_74 : mC xm121 74 = some (.iload_n 2, 1) := by decide +kernel
theorem g121_75 : mC xm121 75 = some (.invokestatic 46, 3) := by decide +kernel
theorem g121_78 : mC xm121 78 = some (.goto 9, 3) := by decide +kernel
theorem g121_81 : mC xm121 81 = some (.iload_n 2, 1) := by decide +kernel
theorem g121_82 : mC xm121 82 = some (.invokestatic 46, 3) := by decide +kernel
theorem g121_85 : mC xm121 85 = some (.iconst (-1), 1) := by decide +kernel
theorem g121_86 : mC xm121 86 = some (.ixor, 1) := by decide +kernel
theorem g121_87 : mC xm121 87 = some (.iand, 1) := by decide +kernel
theorem g121_88 : mC xm121 88 = some (.putfield 18, 3) := by decide +kernel
theorem g121_91 : mC xm121 91 = some (.iconst 2, 1) := by decide +kernel
theorem g121_92 : mC xm121 92 = some (.iload_n 2, 1) := by decide +kernel
theorem g121_93 : mC xm121 93 = some (.imul, 1) := by decide +kernel
theorem g121_94 : mC xm121 94 = some (.iload_n 3, 1) := by decide +kernel
theorem g121_95 : mC xm121 95 = some (.ifCond .eq 7, 3) := by decide +kernel
theorem g121_98 : mC xm121 98 = some (.iconst 1, 1) := by decide +kernel
theorem g121_99 : mC xm121 99 = some (.goto 4, 3) := by decide +kernel
theorem g121_102 : mC xm121 102 = some (.iconst 0, 1) := by decide +kernel
theorem g121_103 : mC xm121 103 = some (.iadd, 1) := by decide +kernel
theorem g121_104 : mC xm121 104 = some (.ireturn, 1) := by decide +kernel
theorem g123_0 : mC xm123 0 = some (.iconst 0, 1) := by decide +kernel
theorem g123_1 : mC xm123 1 = some (.istore_n 1, 1) := by decide +kernel
theorem g123_2 : mC xm123 2 = some (.iconst 0, 1) := by decide +kernel
theorem g123_3 : mC xm123 3 = some (.istore_n 2, 1) := by decide +kernel
theorem g123_4 : mC xm123 4 = some (.iload_n 2, 1) := by decide +kernel
theorem g123_5 : mC xm123 5 = some (.iconst 3, 1) := by decide +kernel
theorem g123_6 : mC xm123 6 = some (.if_icmp .ge 27, 3) := by decide +kernel
theorem g123_9 : mC xm123 9 = some (.iload_n 1, 1) := by decide +kernel
theorem g123_10 : mC xm123 10 = some (.iload_n 0, 1) := by decide +kernel
theorem g123_11 : mC xm123 11 = some (.iload_n 2, 1) := by decide +kernel
theorem g123_12 : mC xm123 12 = some (.invokestatic 34, 3) := by decide +kernel
theorem g123_15 : mC xm123 15 = some (.ifCond .eq 9, 3) := by decide +kernel
theorem g123_18 : mC xm123 18 = some (.iconst 1, 1) := by decide +kernel
theorem g123_19 : mC xm123 19 = some (.iload_n 2, 1) := by decide +kernel
theorem g123_20 : mC xm123 20 = some (.ishl, 1) := by decide +kernel
theorem g123_21 : mC xm123 21 = some (.goto 4, 3) := by decide +kernel
theorem g123_24 : mC xm123 24 = some (.iconst 0, 1) := by decide +kernel
theorem g123_25 : mC xm123 25 = some (.ior, 1) := by decide +kernel
theorem g123_26 : mC xm123 26 = some (.istore_n 1, 1) := by decide +kernel
theorem g123_27 : mC xm123 27 = some (.iinc 2 1, 3) := by decide +kernel
theorem g123_30 : mC xm123 30 = some (.goto (-26), 3) := by decide +kernel
theorem g123_33 : mC xm123 33 = some (.iload_n 1, 1) := by decide +kernel
theorem g123_34 : mC xm123 34 = some (.ireturn, 1) := by decide +kernel
theorem g124_0 : mC xm124 0 = some (.aload_n 0, 1) := by decide +kernel
theorem g124_1 : mC xm124 1 = some (.iload_n 1, 1) := by decide +kernel
theorem g124_2 : mC xm124 2 = some (.invokevirtual 332, 3) := by decide +kernel
theorem g124_5 : mC xm124 5 = some (.astore_n 3, 1) := by decide +kernel
theorem g124_6 : mC xm124 6 = some (.aload_n 3, 1) := by decide +kernel
theorem g124_7 : mC xm124 7 = some (.ifnonnull 5, 3) := by decide +kernel
theorem g124_10 : mC xm124 10 = some (.iconst (-1), 1) := by decide +kernel
theorem g124_11 : mC xm124 11 = some (.ireturn, 1) := by decide +kernel
theorem g124_12 : mC xm124 12 = some (.iload_n 2, 1) := by decide +kernel
theorem g124_13 : mC xm124 13 = some (.tableswitch (59) (0) (3) #[(31), (36), (41), (50)], 31) := by decide +kernel
theorem g124_44 : mC xm124 44 = some (.aload_n 3, 1) := by decide +kernel
theorem g124_45 : mC xm124 45 = some (.invokevirtual 342, 3) := by decide +kernel
theorem g124_48 : mC xm124 48 = some (.ireturn, 1) := by decide +kernel
theorem g124_49 : mC xm124 49 = some (.aload_n 3, 1) := by decide +kernel
theorem g124_50 : mC xm124 50 = some (.invokevirtual 345, 3) := by decide +kernel
theorem g124_53 : mC xm124 53 = some (.ireturn, 1) := by decide +kernel
theorem g124_54 : mC xm124 54 = some (.sipush 1900, 3) := by decide +kernel
theorem g124_57 : mC xm124 57 = some (.aload_n 3, 1) := by decide +kernel
theorem g124_58 : mC xm124 58 = some (.invokevirtual 348, 3) := by decide +kernel
theorem g124_61 : mC xm124 61 = some (.iadd, 1) := by decide +kernel
theorem g124_62 : mC xm124 62 = some (.ireturn, 1) := by decide +kernel
theorem g124_63 : mC xm124 63 = some (.aload_n 3, 1) := by decide +kernel
theorem g124_64 : mC xm124 64 = some (.aload_n 3, 1) := by decide +kernel
theorem g124_65 : mC xm124 65 = some (.invokevirtual 348, 3) := by decide +kernel
theorem g124_68 : mC xm124 68 = some (.invokevirtual 351, 3) := by decide +kernel
theorem g124_71 : mC xm124 71 = some (.ireturn, 1) := by decide +kernel
theorem g124_72 : mC xm124 72 = some (.iconst (-1), 1) := by decide +kernel
theorem g124_73 : mC xm124 73 = some (.ireturn, 1) := by decide +kernel
theorem g125_0 : mC xm125 0 = some (.aload_n 0, 1) := by decide +kernel
theorem g125_1 : mC xm125 1 = some (.getfield 15, 3) := by decide +kernel
theorem g125_4 : mC xm125 4 = some (.aload_n 0, 1) := by decide +kernel
theorem g125_5 : mC xm125 5 = some (.getfield 9, 3) := by decide +kernel
theorem g125_8 : mC xm125 8 = some (.isub, 1) := by decide +kernel
theorem g125_9 : mC xm125 9 = some (.iconst 1, 1) := by decide +kernel
theorem g125_10 : mC xm125 10 = some (.iadd, 1) := by decide +kernel
theorem g125_11 : mC xm125 11 = some (.aload_n 0, 1) := by decide +kernel
theorem g125_12 : mC xm125 12 = some (.getfield 18, 3) := by decide +kernel
theorem g125_15 : mC xm125 15 = some (.invokestatic 50, 3) := by decide +kernel
theorem g125_18 : mC xm125 18 = some (.imul, 1) := by decide +kernel
theorem g125_19 : mC xm125 19 = some (.ireturn, 1) := by decide +kernel
theorem g126_0 : mC xm126 0 = some (.iload_n 0, 1) := by decide +kernel
theorem g126_1 : mC xm126 1 = some (.iload_n 0, 1) := by decide +kernel
theorem g126_2 : mC xm126 2 = some (.iconst 1, 1) := by decide +kernel
theorem g126_3 : mC xm126 3 = some (.iushr, 1) := by decide +kernel
theorem g126_4 : mC xm126 4 = some (.ldc_w 265, 3) := by decide +kernel
theorem g126_7 : mC xm126 7 = some (.iand, 1) := by decide +kernel
theorem g126_8 : mC xm126 8 = some (.isub, 1) := by decide +kernel
theorem g126_9 : mC xm126 9 = some (.istore_n 0, 1) := by decide +kernel
theorem g126_10 : mC xm126 10 = some (.iload_n 0, 1) := by decide +kernel
theorem g126_11 : mC xm126 11 = some (.ldc_w 266, 3) := by decide +kernel
theorem g126_14 : mC xm126 14 = some (.iand, 1) := by decide +kernel
theorem g126_15 : mC xm126 15 = some (.iload_n 0, 1) := by decide +kernel
theorem g126_16 : mC xm126 16 = some (.iconst 2, 1) := by decide +kernel
theorem g126_17 : mC xm126 17 = some (.iushr, 1) := by decide +kernel
theorem g126_18 : mC xm126 18 = some (.ldc_w 266, 3) := by decide +kernel
theorem g126_21 : mC xm126 21 = some (.iand, 1) := by decide +kernel
theorem g126_22 : mC xm126 22 = some (.iadd, 1) := by decide +kernel
theorem g126_23 : mC xm126 23 = some (.istore_n 0, 1) := by decide +kernel
theorem g126_24 : mC xm126 24 = some (.iload_n 0, 1) := by decide +kernel
theorem g126_25 : mC xm126 25 = some (.iload_n 0, 1) := by decide +kernel
theorem g126_26 : mC xm126 26 = some (.iconst 4, 1) := by decide +kernel
theorem g126_27 : mC xm126 27 = some (.iushr, 1) := by decide +kernel
theorem g126_28 : mC xm126 28 = some (.iadd, 1) := by decide +kernel
theorem g126_29 : mC xm126 29 = some (.ldc_w 267, 3) := by decide +kernel
theorem g126_32 : mC xm126 32 = some (.iand, 1) := by decide +kernel
theorem g126_33 : mC xm126 33 = some (.istore_n 0, 1) := by decide +kernel
theorem g126_34 : mC xm126 34 = some (.iload_n 0, 1) := by decide +kernel
theorem g126_35 : mC xm126 35 = some (.iload_n 0, 1) := by decide +kernel
theorem g126_36 : mC xm126 36 = some (.bipush 8, 2) := by decide +kernel
theorem g126_38 : mC xm126 38 = some (.iushr, 1) := by decide +kernel
theorem g126_39 : mC xm126 39 = some (.iadd, 1) := by decide +kernel
theorem g126_40 : mC xm126 40 = some (.istore_n 0, 1) := by decide +kernel
theorem g126_41 : mC xm126 41 = some (.iload_n 0, 1) := by decide +kernel
theorem g126_42 : mC xm126 42 = some (.iload_n 0, 1) := by decide +kernel
theorem g126_43 : mC xm126 43 = some (.bipush 16, 2) := by decide +kernel
theorem g126_45 : mC xm126 45 = some (.iushr, 1) := by decide +kernel
theorem g126_46 : mC xm126 46 = some (.iadd, 1) := by decide +kernel
theorem g126_47 : mC xm126 47 = some (.istore_n 0, 1) := by decide +kernel
theorem g126_48 : mC xm126 48 = some (.iload_n 0, 1) := by decide +kernel
theorem g126_49 : mC xm126 49 = some (.bipush 63, 2) := by decide +kernel
theorem g126_51 : mC xm126 51 = some (.iand, 1) := by decide +kernel
theorem g126_52 : mC xm126 52 = some (.ireturn, 1) := by decide +kernel
theorem g127_0 : mC xm127 0 = some (.iconst 0, 1) := by decide +kernel
theorem g127_1 : mC xm127 1 = some (.istore_n 1, 1) := by decide +kernel
theorem g127_2 : mC xm127 2 = some (.iload_n 1, 1) := by decide +kernel
theorem g127_3 : mC xm127 3 = some (.iconst 3, 1) := by decide +kernel
theorem g127_4 : mC xm127 4 = some (.if_icmp .ge 29, 3) := by decide +kernel
theorem g127_7 : mC xm127 7 = some (.aload_n 0, 1) := by decide +kernel
theorem g127_8 : mC xm127 8 = some (.getfield 18, 3) := by decide +kernel
theorem g127_11 : mC xm127 11 = some (.iload_n 1, 1) := by decide +kernel
theorem g127_12 : mC xm127 12 = some (.invokestatic 55, 3) := by decide +kernel
theorem g127_15 : mC xm127 15 = some (.ifCond .eq 12, 3) := by decide +kernel
theorem g127_18 : mC xm127 18 = some (.aload_n 0, 1) := by decide +kernel
theorem g127_19 : mC xm127 19 = some (.getfield 9, 3) := by decide +kernel
theorem g127_22 : mC xm127 22 = some (.iconst 3, 1) := by decide +kernel
theorem g127_23 : mC xm127 23 = some (.imul, 1) := by decide +kernel
theorem g127_24 : mC xm127 24 = some (.iload_n 1, 1) := by decide +kernel
theorem g127_25 : mC xm127 25 = some (.iadd, 1) := by decide +kernel
theorem g127_26 : mC xm127 26 = some (.ireturn, 1) := by decide +kernel
theorem g127_27 : mC xm127 27 = some (.iinc 1 1, 3) := by decide +kernel
theorem g127_30 : mC xm127 30 = some (.goto (-28), 3) := by decide +kernel
theorem g128_0 : mC xm128 0 = some (.iconst 0, 1) := by decide +kernel
theorem g128_1 : mC xm128 1 = some (.istore_n 1, 1) := by decide +kernel
theorem g128_2 : mC xm128 2 = some (.iconst 1, 1) := by decide +kernel
theorem g128_3 : mC xm128 3 = some (.istore_n 2, 1) := by decide +kernel
theorem g128_4 : mC xm128 4 = some (.iload_n 2, 1) := by decide +kernel
theorem g128_5 : mC xm128 5 = some (.bipush 100, 2) := by decide +kernel
theorem g128_7 : mC xm128 7 = some (.if_icmp .ge 24, 3) := by decide +kernel
theorem g128_10 : mC xm128 10 = some (.aload_n 0, 1) := by decide +kernel
theorem g128_11 : mC xm128 11 = some (.iload_n 2, 1) := by decide +kernel
theorem g128_12 : mC xm128 12 = some (.invokevirtual 58, 3) := by decide +kernel
theorem g128_15 : mC xm128 15 = some (.aload_n 0, 1) := by decide +kernel
theorem g128_16 : mC xm128 16 = some (.iload_n 1, 1) := by decide +kernel
theorem g128_17 : mC xm128 17 = some (.invokevirtual 58, 3) := by decide +kernel
theorem g128_20 : mC xm128 20 = some (.if_icmp .ge 5, 3) := by decide +kernel
theorem g128_23 : mC xm128 23 = some (.iload_n 2, 1) := by decide +kernel
theorem g128_24 : mC xm128 24 = some (.istore_n 1, 1) := by decide +kernel
theorem g128_25 : mC xm128 25 = some (.iinc 2 1, 3) := by decide +kernel
theorem g128_28 : mC xm128 28 = some (.goto (-24), 3) := by decide +kernel
theorem g128_31 : mC xm128 31 = some (.iload_n 1, 1) := by decide +kernel
theorem g128_32 : mC xm128 32 = some (.ireturn, 1) := by decide +kernel
theorem g129_0 : mC xm129 0 = some (.iconst 0, 1) := by decide +kernel
theorem g129_1 : mC xm129 1 = some (.iload_n 1, 1) := by decide +kernel
theorem g129_2 : mC xm129 2 = some (.aload_n 0, 1) := by decide +kernel
theorem g129_3 : mC xm129 3 = some (.getfield 15, 3) := by decide +kernel
theorem g129_6 : mC xm129 6 = some (.invokestatic 38, 3) := by decide +kernel
theorem g129_9 : mC xm129 9 = some (.aload_n 0, 1) := by decide +kernel
theorem g129_10 : mC xm129 10 = some (.getfield 9, 3) := by decide +kernel
theorem g129_13 : mC xm129 13 = some (.isub, 1) := by decide +kernel
theorem g129_14 : mC xm129 14 = some (.iconst 1, 1) := by decide +kernel
theorem g129_15 : mC xm129 15 = some (.iadd, 1) := by decide +kernel
theorem g129_16 : mC xm129 16 = some (.invokestatic 43, 3) := by decide +kernel
theorem g129_19 : mC xm129 19 = some (.istore_n 2, 1) := by decide +kernel
theorem g129_20 : mC xm129 20 = some (.aload_n 0, 1) := by decide +kernel
theorem g129_21 : mC xm129 21 = some (.getfield 15, 3) := by decide +kernel
theorem g129_24 : mC xm129 24 = some (.aload_n 0, 1) := by decide +kernel
theorem g129_25 : mC xm129 25 = some (.getfield 9, 3) := by decide +kernel
theorem g129_28 : mC xm129 28 = some (.isub, 1) := by decide +kernel
theorem g129_29 : mC xm129 29 = some (.iconst 1, 1) := by decide +kernel
theorem g129_30 : mC xm129 30 = some (.iadd, 1) := by decide +kernel
theorem g129_31 : mC xm129 31 = some (.iload_n 2, 1) := by decide +kernel
theorem g129_32 : mC xm129 32 = some (.isub, 1) := by decide +kernel
theorem g129_33 : mC xm129 33 = some (.istore_n 3, 1) := by decide +kernel
theorem g129_34 : mC xm129 34 = some (.iload_n 2, 1) := by decide +kernel
theorem g129_35 : mC xm129 35 = some (.aload_n 0, 1) := by decide +kernel
theorem g129_36 : mC xm129 36 = some (.sipush 1900, 3) := by decide +kernel
theorem g129_39 : mC xm129 39 = some (.iload_n 1, 1) := by decide +kernel
theorem g129_40 : mC xm129 40 = some (.iadd, 1) := by decide +kernel
theorem g129_41 : mC xm129 41 = some (.invokevirtual 61, 3) := by decide +kernel
theorem g129_44 : mC xm129 44 = some (.imul, 1) := by decide +kernel
theorem g129_45 : mC xm129 45 = some (.iload_n 3, 1) := by decide +kernel
theorem g129_46 : mC xm129 46 = some (.aload_n 0, 1) := by decide +kernel
theorem g129_47 : mC xm129 47 = some (.sipush 2000, 3) := by decide +kernel
theorem g129_50 : mC xm129 50 = some (.iload_n 1, 1) := by decide +kernel
theorem g129_51 : mC xm129 51 = some (.iadd, 1) := by decide +kernel
theorem g129_52 : mC xm129 52 = some (.invokevirtual 61, 3) := by decide +kernel
theorem g129_55 : mC xm129 55 = some (.imul, 1) := by decide +kernel
theorem g129_56 : mC xm129 56 = some (.invokestatic 43, 3) := by decide +kernel
theorem g129_59 : mC xm129 59 = some (.ireturn, 1) := by decide +kernel
theorem g130_0 : mC xm130 0 = some (.aload_n 0, 1) := by decide +kernel
theorem g130_1 : mC xm130 1 = some (.getfield 18, 3) := by decide +kernel
theorem g130_4 : mC xm130 4 = some (.iload_n 1, 1) := by decide +kernel
theorem g130_5 : mC xm130 5 = some (.invokestatic 46, 3) := by decide +kernel
theorem g130_8 : mC xm130 8 = some (.iand, 1) := by decide +kernel
theorem g130_9 : mC xm130 9 = some (.invokestatic 50, 3) := by decide +kernel
theorem g130_12 : mC xm130 12 = some (.istore_n 2, 1) := by decide +kernel
theorem g130_13 : mC xm130 13 = some (.iload_n 2, 1) := by decide +kernel
theorem g130_14 : mC xm130 14 = some (.aload_n 0, 1) := by decide +kernel
theorem g130_15 : mC xm130 15 = some (.getfield 18, 3) := by decide +kernel
theorem g130_18 : mC xm130 18 = some (.invokestatic 50, 3) := by decide +kernel
theorem g130_21 : mC xm130 21 = some (.iload_n 2, 1) := by decide +kernel
theorem g130_22 : mC xm130 22 = some (.isub, 1) := by decide +kernel
theorem g130_23 : mC xm130 23 = some (.invokestatic 43, 3) := by decide +kernel
theorem g130_26 : mC xm130 26 = some (.ireturn, 1) := by decide +kernel
theorem g181_0 : mC xm181 0 = some (.iload_n 1, 1) := by decide +kernel
theorem g181_1 : mC xm181 1 = some (.iload_n 0, 1) := by decide +kernel
theorem g181_2 : mC xm181 2 = some (.if_icmp .gt 12, 3) := by decide +kernel
theorem g181_5 : mC xm181 5 = some (.iload_n 0, 1) := by decide +kernel
theorem g181_6 : mC xm181 6 = some (.iload_n 2, 1) := by decide +kernel
theorem g181_7 : mC xm181 7 = some (.if_icmp .gt 7, 3) := by decide +kernel
theorem g181_10 : mC xm181 10 = some (.iconst 1, 1) := by decide +kernel
theorem g181_11 : mC xm181 11 = some (.goto 4, 3) := by decide +kernel
theorem g181_14 : mC xm181 14 = some (.iconst 0, 1) := by decide +kernel
theorem g181_15 : mC xm181 15 = some (.ireturn, 1) := by decide +kernel
theorem g196_0 : mC xm196 0 = some (.iload_n 0, 1) := by decide +kernel
theorem g196_1 : mC xm196 1 = some (.sipush 1900, 3) := by decide +kernel
theorem g196_4 : mC xm196 4 = some (.sipush 2099, 3) := by decide +kernel
theorem g196_7 : mC xm196 7 = some (.invokestatic 175, 3) := by decide +kernel
theorem g196_10 : mC xm196 10 = some (.ireturn, 1) := by decide +kernel
theorem g197_0 : mC xm197 0 = some (.iload_n 0, 1) := by decide +kernel
theorem g197_1 : mC xm197 1 = some (.iconst 4, 1) := by decide +kernel
theorem g197_2 : mC xm197 2 = some (.irem, 1) := by decide +kernel
theorem g197_3 : mC xm197 3 = some (.ifCond .ne 31, 3) := by decide +kernel
theorem g197_6 : mC xm197 6 = some (.iload_n 1, 1) := by decide +kernel
theorem g197_7 : mC xm197 7 = some (.ifCond .eq 23, 3) := by decide +kernel
theorem g197_10 : mC xm197 10 = some (.iload_n 0, 1) := by decide +kernel
theorem g197_11 : mC xm197 11 = some (.bipush 100, 2) := by decide +kernel
theorem g197_13 : mC xm197 13 = some (.irem, 1) := by decide +kernel
theorem g197_14 : mC xm197 14 = some (.ifCond .ne 16, 3) := by decide +kernel
theorem g197_17 : mC xm197 17 = some (.iload_n 1, 1) := by decide +kernel
theorem g197_18 : mC xm197 18 = some (.iconst 2, 1) := by decide +kernel
theorem g197_19 : mC xm197 19 = some (.if_icmp .ne 15, 3) := by decide +kernel
theorem g197_22 : mC xm197 22 = some (.iload_n 0, 1) := by decide +kernel
theorem g197_23 : mC xm197 23 = some (.sipush 400, 3) := by decide +kernel
theorem g197_26 : mC xm197 26 = some (.irem, 1) := by decide +kernel
theorem g197_27 : mC xm197 27 = some (.ifCond .ne 7, 3) := by decide +kernel
theorem g197_30 : mC xm197 30 = some (.iconst 1, 1) := by decide +kernel
theorem g197_31 : mC xm197 31 = some (.goto 4, 3) := by decide +kernel
theorem g197_34 : mC xm197 34 = some (.iconst 0, 1) := by decide +kernel
theorem g197_35 : mC xm197 35 = some (.ireturn, 1) := by decide +kernel
theorem g199_0 : mC xm199 0 = some (.iload_n 1, 1) := by decide +kernel
theorem g199_1 : mC xm199 1 = some (.iconst 2, 1) := by decide +kernel
theorem g199_2 : mC xm199 2 = some (.if_icmp .ne 28, 3) := by decide +kernel
theorem g199_5 : mC xm199 5 = some (.iload_n 2, 1) := by decide +kernel
theorem g199_6 : mC xm199 6 = some (.ifCond .lt 24, 3) := by decide +kernel
theorem g199_9 : mC xm199 9 = some (.iload_n 0, 1) := by decide +kernel
theorem g199_10 : mC xm199 10 = some (.iload_n 2, 1) := by decide +kernel
theorem g199_11 : mC xm199 11 = some (.if_icmp .lt 11, 3) := by decide +kernel
theorem g199_14 : mC xm199 14 = some (.sipush 1900, 3) := by decide +kernel
theorem g199_17 : mC xm199 17 = some (.iload_n 0, 1) := by decide +kernel
theorem g199_18 : mC xm199 18 = some (.iadd, 1) := by decide +kernel
theorem g199_19 : mC xm199 19 = some (.goto 12, 3) := by decide +kernel
theorem g199_22 : mC xm199 22 = some (.sipush 2000, 3) := by decide +kernel
theorem g199_25 : mC xm199 25 = some (.iload_n 0, 1) := by decide +kernel
theorem g199_26 : mC xm199 26 = some (.iadd, 1) := by decide +kernel
theorem g199_27 : mC xm199 27 = some (.goto 4, 3) := by decide +kernel
theorem g199_31 : mC xm199 31 = some (.ireturn, 1) := by decide +kernel
theorem g250_0 : mC xm250 0 = some (.iload_n 1, 1) := by decide +kernel
theorem g250_1 : mC xm250 1 = some (.iconst 0, 1) := by decide +kernel
theorem g250_2 : mC xm250 2 = some (.bipush 100, 2) := by decide +kernel
theorem g250_4 : mC xm250 4 = some (.invokestatic 175, 3) := by decide +kernel
theorem g250_7 : mC xm250 7 = some (.ifCond .eq 12, 3) := by decide +kernel
theorem g250_10 : mC xm250 10 = some (.iload_n 2, 1) := by decide +kernel
theorem g250_11 : mC xm250 11 = some (.iconst 0, 1) := by decide +kernel
theorem g250_12 : mC xm250 12 = some (.iconst 2, 1) := by decide +kernel
theorem g250_13 : mC xm250 13 = some (.invokestatic 175, 3) := by decide +kernel
theorem g250_16 : mC xm250 16 = some (.ifCond .ne 6, 3) := by decide +kernel
theorem g250_19 : mC xm250 19 = some (.bipush (-2), 2) := by decide +kernel
theorem g250_21 : mC xm250 21 = some (.ireturn, 1) := by decide +kernel
theorem g250_22 : mC xm250 22 = some (.aload_n 0, 1) := by decide +kernel
theorem g250_23 : mC xm250 23 = some (.getfield 408, 3) := by decide +kernel
theorem g250_26 : mC xm250 26 = some (.bipush 6, 2) := by decide +kernel
theorem g250_28 : mC xm250 28 = some (.if_icmp .ne 6, 3) := by decide +kernel
theorem g250_31 : mC xm250 31 = some (.bipush (-4), 2) := by decide +kernel
theorem g250_33 : mC xm250 33 = some (.ireturn, 1) := by decide +kernel
theorem g250_34 : mC xm250 34 = some (.aload_n 0, 1) := by decide +kernel
theorem g250_35 : mC xm250 35 = some (.getfield 76, 3) := by decide +kernel
theorem g250_38 : mC xm250 38 = some (.aload_n 0, 1) := by decide +kernel
theorem g250_39 : mC xm250 39 = some (.getfield 408, 3) := by decide +kernel
theorem g250_42 : mC xm250 42 = some (.iload_n 1, 1) := by decide +kernel
theorem g250_43 : mC xm250 43 = some (.iastore, 1) := by decide +kernel
theorem g250_44 : mC xm250 44 = some (.aload_n 0, 1) := by decide +kernel
theorem g250_45 : mC xm250 45 = some (.getfield 79, 3) := by decide +kernel
theorem g250_48 : mC xm250 48 = some (.aload_n 0, 1) := by decide +kernel
theorem g250_49 : mC xm250 49 = some (.getfield 408, 3) := by decide +kernel
theorem g250_52 : mC xm250 52 = some (.iload_n 2, 1) := by decide +kernel
theorem g250_53 : mC xm250 53 = some (.iastore, 1) := by decide +kernel
theorem g250_54 : mC xm250 54 = some (.aload_n 0, 1) := by decide +kernel
theorem g250_55 : mC xm250 55 = some (.dup, 1) := by decide +kernel
theorem g250_56 : mC xm250 56 = some (.getfield 408, 3) := by decide +kernel
theorem g250_59 : mC xm250 59 = some (.dup_x1, 1) := by decide +kernel
theorem g250_60 : mC xm250 60 = some (.iconst 1, 1) := by decide +kernel
theorem g250_61 : mC xm250 61 = some (.iadd, 1) := by decide +kernel
theorem g250_62 : mC xm250 62 = some (.putfield 408, 3) := by decide +kernel
theorem g250_65 : mC xm250 65 = some (.ireturn, 1) := by decide +kernel
theorem g251_0 : mC xm251 0 = some (.iload_n 1, 1) := by decide +kernel
theorem g251_1 : mC xm251 1 = some (.iconst 0, 1) := by decide +kernel
theorem g251_2 : mC xm251 2 = some (.aload_n 0, 1) := by decide +kernel
theorem g251_3 : mC xm251 3 = some (.getfield 408, 3) := by decide +kernel
theorem g251_6 : mC xm251 6 = some (.iconst 1, 1) := by decide +kernel
theorem g251_7 : mC xm251 7 = some (.isub, 1) := by decide +kernel
theorem g251_8 : mC xm251 8 = some (.invokestatic 175, 3) := by decide +kernel
theorem g251_11 : mC xm251 11 = some (.ifCond .ne 5, 3) := by decide +kernel
theorem g251_14 : mC xm251 14 = some (.iconst (-1), 1) := by decide +kernel
theorem g251_15 : mC xm251 15 = some (.ireturn, 1) := by decide +kernel
theorem g251_16 : mC xm251 16 = some (.iload_n 2, 1) := by decide +kernel
theorem g251_17 : mC xm251 17 = some (.invokestatic 271, 3) := by decide +kernel
theorem g251_20 : mC xm251 20 = some (.ifCond .ne 6, 3) := by decide +kernel
theorem g251_23 : mC xm251 23 = some (.bipush (-2), 2) := by decide +kernel
theorem g251_25 : mC xm251 25 = some (.ireturn, 1) := by decide +kernel
theorem g251_26 : mC xm251 26 = some (.aload_n 0, 1) := by decide +kernel
theorem g251_27 : mC xm251 27 = some (.getfield 82, 3) := by decide +kernel
theorem g251_30 : mC xm251 30 = some (.iload_n 1, 1) := by decide +kernel
theorem g251_31 : mC xm251 31 = some (.iaload, 1) := by decide +kernel
theorem g251_32 : mC xm251 32 = some (.bipush 30, 2) := by decide +kernel
theorem g251_34 : mC xm251 34 = some (.if_icmp .ne 6, 3) := by decide +kernel
theorem g251_37 : mC xm251 37 = some (.bipush (-4), 2) := by decide +kernel
theorem g251_39 : mC xm251 39 = some (.ireturn, 1) := by decide +kernel
theorem g251_40 : mC xm251 40 = some (.aload_n 0, 1) := by decide +kernel
theorem g251_41 : mC xm251 41 = some (.getfield 85, 3) := by decide +kernel
theorem g251_44 : mC xm251 44 = some (.iload_n 1, 1) := by decide +kernel
theorem g251_45 : mC xm251 45 = some (.aaload, 1) := by decide +kernel
theorem g251_46 : mC xm251 46 = some (.aload_n 0, 1) := by decide +kernel
theorem g251_47 : mC xm251 47 = some (.getfield 82, 3) := by decide +kernel
theorem g251_50 : mC xm251 50 = some (.iload_n 1, 1) := by decide +kernel
theorem g251_51 : mC xm251 51 = some (.iaload, 1) := by decide +kernel
theorem g251_52 : mC xm251 52 = some (.iload_n 2, 1) := by decide +kernel
theorem g251_53 : mC xm251 53 = some (.iastore, 1) := by decide +kernel
theorem g251_54 : mC xm251 54 = some (.aload_n 0, 1) := by decide +kernel
theorem g251_55 : mC xm251 55 = some (.getfield 82, 3) := by decide +kernel
theorem g251_58 : mC xm251 58 = some (.iload_n 1, 1) := by decide +kernel
theorem g251_59 : mC xm251 59 = some (.dup2, 1) := by decide +kernel
theorem g251_60 : mC xm251 60 = some (.iaload, 1) := by decide +kernel
theorem g251_61 : mC xm251 61 = some (.iconst 1, 1) := by decide +kernel
theorem g251_62 : mC xm251 62 = some (.iadd, 1) := by decide +kernel
theorem g251_63 : mC xm251 63 = some (.iastore, 1) := by decide +kernel
theorem g251_64 : mC xm251 64 = some (.aload_n 0, 1) := by decide +kernel
theorem g251_65 : mC xm251 65 = some (.getfield 76, 3) := by decide +kernel
theorem g251_68 : mC xm251 68 = some (.iload_n 1, 1) := by decide +kernel
theorem g251_69 : mC xm251 69 = some (.iaload, 1) := by decide +kernel
theorem g251_70 : mC xm251 70 = some (.aload_n 0, 1) := by decide +kernel
theorem g251_71 : mC xm251 71 = some (.getfield 79, 3) := by decide +kernel
theorem g251_74 : mC xm251 74 = some (.iload_n 1, 1) := by decide +kernel
theorem g251_75 : mC xm251 75 = some (.iaload, 1) := by decide +kernel
theorem g251_76 : mC xm251 76 = some (.iload_n 2, 1) := by decide +kernel
theorem g251_77 : mC xm251 77 = some (.invokestatic 411, 3) := by decide +kernel
theorem g251_80 : mC xm251 80 = some (.ireturn, 1) := by decide +kernel
theorem g252_0 : mC xm252 0 = some (.iload_n 2, 1) := by decide +kernel
theorem g252_1 : mC xm252 1 = some (.bipush 100, 2) := by decide +kernel
theorem g252_3 : mC xm252 3 = some (.irem, 1) := by decide +kernel
theorem g252_4 : mC xm252 4 = some (.iconst 2, 1) := by decide +kernel
theorem g252_5 : mC xm252 5 = some (.iload_n 0, 1) := by decide +kernel
theorem g252_6 : mC xm252 6 = some (.invokestatic 278, 3) := by decide +kernel
theorem g252_9 : mC xm252 9 = some (.istore_n 3, 1) := by decide +kernel
theorem g252_10 : mC xm252 10 = some (.iconst 2, 1) := by decide +kernel
theorem g252_11 : mC xm252 11 = some (.iload_n 3, 1) := by decide +kernel
theorem g252_12 : mC xm252 12 = some (.imul, 1) := by decide +kernel
theorem g252_13 : mC xm252 13 = some (.iload_n 3, 1) := by decide +kernel
theorem g252_14 : mC xm252 14 = some (.iload_n 1, 1) := by decide +kernel
theorem g252_15 : mC xm252 15 = some (.invokestatic 274, 3) := by decide +kernel
theorem g252_18 : mC xm252 18 = some (.ifCond .eq 7, 3) := by decide +kernel
theorem g252_21 : mC xm252 21 = some (.iconst 1, 1) := by decide +kernel
theorem g252_22 : mC xm252 22 = some (.goto 4, 3) := by decide +kernel
theorem g252_25 : mC xm252 25 = some (.iconst 0, 1) := by decide +kernel
theorem g252_26 : mC xm252 26 = some (.iadd, 1) := by decide +kernel
theorem g252_27 : mC xm252 27 = some (.ireturn, 1) := by decide +kernel
theorem g253_0 : mC xm253 0 = some (.iload_n 1, 1) := by decide +kernel
theorem g253_1 : mC xm253 1 = some (.iconst 0, 1) := by decide +kernel
theorem g253_2 : mC xm253 2 = some (.aload_n 0, 1) := by decide +kernel
theorem g253_3 : mC xm253 3 = some (.getfield 408, 3) := by decide +kernel
theorem g253_6 : mC xm253 6 = some (.iconst 1, 1) := by decide +kernel
theorem g253_7 : mC xm253 7 = some (.isub, 1) := by decide +kernel
theorem g253_8 : mC xm253 8 = some (.invokestatic 175, 3) := by decide +kernel
theorem g253_11 : mC xm253 11 = some (.ifCond .eq 12, 3) := by decide +kernel
theorem g253_14 : mC xm253 14 = some (.iload_n 2, 1) := by decide +kernel
theorem g253_15 : mC xm253 15 = some (.iconst 0, 1) := by decide +kernel
theorem g253_16 : mC xm253 16 = some (.iconst 3, 1) := by decide +kernel
theorem g253_17 : mC xm253 17 = some (.invokestatic 175, 3) := by decide +kernel
theorem g253_20 : mC xm253 20 = some (.ifCond .ne 5, 3) := by decide +kernel
theorem g253_23 : mC xm253 23 = some (.iconst (-1), 1) := by decide +kernel
theorem g253_24 : mC xm253 24 = some (.ireturn, 1) := by decide +kernel
theorem g253_25 : mC xm253 25 = some (.iconst 0, 1) := by decide +kernel
theorem g253_26 : mC xm253 26 = some (.istore_n 3, 1) := by decide +kernel
theorem g253_27 : mC xm253 27 = some (.iconst (-1), 1) := by decide +kernel
theorem g253_28 : mC xm253 28 = some (.istore 4, 2) := by decide +kernel
theorem g253_30 : mC xm253 30 = some (.sipush 302, 3) := by decide +kernel
theorem g253_33 : mC xm253 33 = some (.istore 5, 2) := by decide +kernel
theorem g253_35 : mC xm253 35 = some (.iload 5, 2) := by decide +kernel
theorem g253_37 : mC xm253 37 = some (.ifCond .lt 60, 3) := by decide +kernel
theorem g253_40 : mC xm253 40 = some (.aload_n 0, 1) := by decide +kernel
theorem g253_41 : mC xm253 41 = some (.getfield 165, 3) := by decide +kernel
theorem g253_44 : mC xm253 44 = some (.iload 5, 2) := by decide +kernel
theorem g253_46 : mC xm253 46 = some (.aload_n 0, 1) := by decide +kernel
theorem g253_47 : mC xm253 47 = some (.iload_n 1, 1) := by decide +kernel
theorem g253_48 : mC xm253 48 = some (.iload 5, 2) := by decide +kernel
theorem g253_50 : mC xm253 50 = some (.invokevirtual 417, 3) := by decide +kernel
theorem g253_53 : mC xm253 53 = some (.bastore, 1) := by decide +kernel
theorem g253_54 : mC xm253 54 = some (.iload_n 3, 1) := by decide +kernel
theorem g253_55 : mC xm253 55 = some (.aload_n 0, 1) := by decide +kernel
theorem g253_56 : mC xm253 56 = some (.getfield 165, 3) := by decide +kernel
theorem g253_59 : mC xm253 59 = some (.iload 5, 2) := by decide +kernel
theorem g253_61 : mC xm253 61 = some (.baload, 1) := by decide +kernel
theorem g253_62 : mC xm253 62 = some (.ifCond .eq 7, 3) := by decide +kernel
theorem g253_65 : mC xm253 65 = some (.iconst 1, 1) := by decide +kernel
theorem g253_66 : mC xm253 66 = some (.goto 4, 3) := by decide +kernel
theorem g253_69 : mC xm253 69 = some (.iconst 0, 1) := by decide +kernel
theorem g253_70 : mC xm253 70 = some (.iadd, 1) := by decide +kernel
theorem g253_71 : mC xm253 71 = some (.istore_n 3, 1) := by decide +kernel
theorem g253_72 : mC xm253 72 = some (.aload_n 0, 1) := by decide +kernel
theorem g253_73 : mC xm253 73 = some (.getfield 165, 3) := by decide +kernel
theorem g253_76 : mC xm253 76 = some (.iload 5, 2) := by decide +kernel
theorem g253_78 : mC xm253 78 = some (.baload, 1) := by decide +kernel
theorem g253_79 : mC xm253 79 = some (.ifCond .eq 8, 3) := by decide +kernel
theorem g253_82 : mC xm253 82 = some (.iload 5, 2) := by decide +kernel
theorem g253_84 : mC xm253 84 = some (.goto 5, 3) := by decide +kernel
theorem g253_87 : mC xm253 87 = some (.iload 4, 2) := by decide +kernel
theorem g253_89 : mC xm253 89 = some (.istore 4, 2) := by decide +kernel
theorem g253_91 : mC xm253 91 = some (.iinc 5 (-1), 3) := by decide +kernel
theorem g253_94 : mC xm253 94 = some (.goto (-59), 3) := by decide +kernel
theorem g253_97 : mC xm253 97 = some (.iload_n 2, 1) := by decide +kernel
theorem g253_98 : mC xm253 98 = some (.iconst 2, 1) := by decide +kernel
theorem g253_99 : mC xm253 99 = some (.if_icmp .ge 14, 3) := by decide +kernel
theorem g253_102 : mC xm253 102 = some (.iload_n 2, 1) := by decide +kernel
theorem g253_103 : mC xm253 103 = some (.ifCond .ne 7, 3) := by decide +kernel
theorem g253_106 : mC xm253 106 = some (.iload_n 3, 1) := by decide +kernel
theorem g253_107 : mC xm253 107 = some (.goto 5, 3) := by decide +kernel
theorem g253_110 : mC xm253 110 = some (.iload 4, 2) := by decide +kernel
theorem g253_112 : mC xm253 112 = some (.ireturn, 1) := by decide +kernel
theorem g253_113 : mC xm253 113 = some (.sipush 1900, 3) := by decide +kernel
theorem g253_116 : mC xm253 116 = some (.istore 5, 2) := by decide +kernel
theorem g253_118 : mC xm253 118 = some (.aload_n 0, 1) := by decide +kernel
theorem g253_119 : mC xm253 119 = some (.sipush 1900, 3) := by decide +kernel
theorem g253_122 : mC xm253 122 = some (.invokevirtual 420, 3) := by decide +kernel
theorem g253_125 : mC xm253 125 = some (.istore 6, 2) := by decide +kernel
theorem g253_127 : mC xm253 127 = some (.sipush 1901, 3) := by decide +kernel
theorem g253_130 : mC xm253 130 = some (.istore 7, 2) := by decide +kernel
theorem g253_132 : mC xm253 132 = some (.iload 7, 2) := by decide +kernel
theorem g253_134 : mC xm253 134 = some (.sipush 2100, 3) := by decide +kernel
theorem g253_137 : mC xm253 137 = some (.if_icmp .ge 32, 3) := by decide +kernel
theorem g253_140 : mC xm253 140 = some (.aload_n 0, 1) := by decide +kernel
theorem g253_141 : mC xm253 141 = some (.iload 7, 2) := by decide +kernel
theorem g253_143 : mC xm253 143 = some (.invokevirtual 420, 3) := by decide +kernel
theorem g253_146 : mC xm253 146 = some (.istore 8, 2) := by decide +kernel
theorem g253_148 : mC xm253 148 = some (.iload 8, 2) := by decide +kernel
theorem g253_150 : mC xm253 150 = some (.iload 6, 2) := by decide +kernel
theorem g253_152 : mC xm253 152 = some (.if_icmp .ge 11, 3) := by decide +kernel
theorem g253_155 : mC xm253 155 = some (.iload 8, 2) := by decide +kernel
theorem g253_157 : mC xm253 157 = some (.istore 6, 2) := by decide +kernel
theorem g253_159 : mC xm253 159 = some (.iload 7, 2) := by decide +kernel
theorem g253_161 : mC xm253 161 = some (.istore 5, 2) := by decide +kernel
theorem g253_163 : mC xm253 163 = some (.iinc 7 1, 3) := by decide +kernel
theorem g253_166 : mC xm253 166 = some (.goto (-34), 3) := by decide +kernel
theorem g253_169 : mC xm253 169 = some (.iload_n 2, 1) := by decide +kernel
theorem g253_170 : mC xm253 170 = some (.iconst 2, 1) := by decide +kernel
theorem g253_171 : mC xm253 171 = some (.if_icmp .ne 8, 3) := by decide +kernel
theorem g253_174 : mC xm253 174 = some (.iload 5, 2) := by decide +kernel
theorem g253_176 : mC xm253 176 = some (.goto 5, 3) := by decide +kernel
theorem g253_179 : mC xm253 179 = some (.iload 6, 2) := by decide +kernel
theorem g253_181 : mC xm253 181 = some (.ireturn, 1) := by decide +kernel
theorem g254_0 : mC xm254 0 = some (.iconst 0, 1) := by decide +kernel
theorem g254_1 : mC xm254 1 = some (.istore_n 3, 1) := by decide +kernel
theorem g254_2 : mC xm254 2 = some (.iload_n 3, 1) := by decide +kernel
theorem g254_3 : mC xm254 3 = some (.aload_n 0, 1) := by decide +kernel
theorem g254_4 : mC xm254 4 = some (.getfield 82, 3) := by decide +kernel
theorem g254_7 : mC xm254 7 = some (.iload_n 1, 1) := by decide +kernel
theorem g254_8 : mC xm254 8 = some (.iaload, 1) := by decide +kernel
theorem g254_9 : mC xm254 9 = some (.if_icmp .ge 52, 3) := by decide +kernel
theorem g254_12 : mC xm254 12 = some (.aload_n 0, 1) := by decide +kernel
theorem g254_13 : mC xm254 13 = some (.getfield 85, 3) := by decide +kernel
theorem g254_16 : mC xm254 16 = some (.iload_n 1, 1) := by decide +kernel
theorem g254_17 : mC xm254 17 = some (.aaload, 1) := by decide +kernel
theorem g254_18 : mC xm254 18 = some (.iload_n 3, 1) := by decide +kernel
theorem g254_19 : mC xm254 19 = some (.iaload, 1) := by decide +kernel
theorem g254_20 : mC xm254 20 = some (.istore 4, 2) := by decide +kernel
theorem g254_22 : mC xm254 22 = some (.iload_n 2, 1) := by decide +kernel
theorem g254_23 : mC xm254 23 = some (.iconst 3, 1) := by decide +kernel
theorem g254_24 : mC xm254 24 = some (.idiv, 1) := by decide +kernel
theorem g254_25 : mC xm254 25 = some (.iload_n 2, 1) := by decide +kernel
theorem g254_26 : mC xm254 26 = some (.iconst 3, 1) := by decide +kernel
theorem g254_27 : mC xm254 27 = some (.irem, 1) := by decide +kernel
theorem g254_28 : mC xm254 28 = some (.iload 4, 2) := by decide +kernel
theorem g254_30 : mC xm254 30 = some (.invokestatic 411, 3) := by decide +kernel
theorem g254_33 : mC xm254 33 = some (.aload_n 0, 1) := by decide +kernel
theorem g254_34 : mC xm254 34 = some (.getfield 76, 3) := by decide +kernel
theorem g254_37 : mC xm254 37 = some (.iload_n 1, 1) := by decide +kernel
theorem g254_38 : mC xm254 38 = some (.iaload, 1) := by decide +kernel
theorem g254_39 : mC xm254 39 = some (.aload_n 0, 1) := by decide +kernel
theorem g254_40 : mC xm254 40 = some (.getfield 79, 3) := by decide +kernel
theorem g254_43 : mC xm254 43 = some (.iload_n 1, 1) := by decide +kernel
theorem g254_44 : mC xm254 44 = some (.iaload, 1) := by decide +kernel
theorem g254_45 : mC xm254 45 = some (.iload 4, 2) := by decide +kernel
theorem g254_47 : mC xm254 47 = some (.invokestatic 411, 3) := by decide +kernel
theorem g254_50 : mC xm254 50 = some (.if_icmp .eq 5, 3) := by decide +kernel
theorem g254_53 : mC xm254 53 = some (.iconst 0, 1) := by decide +kernel
theorem g254_54 : mC xm254 54 = some (.ireturn, 1) := by decide +kernel
theorem g254_55 : mC xm254 55 = some (.iinc 3 1, 3) := by decide +kernel
theorem g254_58 : mC xm254 58 = some (.goto (-56), 3) := by decide +kernel
theorem g254_61 : mC xm254 61 = some (.iconst 1, 1) := by decide +kernel
theorem g254_62 : mC xm254 62 = some (.ireturn, 1) := by decide +kernel
theorem g255_0 : mC xm255 0 = some (.iconst 2, 1) := by decide +kernel
theorem g255_1 : mC xm255 1 = some (.sipush 1900, 3) := by decide +kernel
theorem g255_4 : mC xm255 4 = some (.iload_n 1, 1) := by decide +kernel
theorem g255_5 : mC xm255 5 = some (.bipush 100, 2) := by decide +kernel
theorem g255_7 : mC xm255 7 = some (.irem, 1) := by decide +kernel
theorem g255_8 : mC xm255 8 = some (.iadd, 1) := by decide +kernel
theorem g255_9 : mC xm255 9 = some (.imul, 1) := by decide +kernel
theorem g255_10 : mC xm255 10 = some (.istore_n 2, 1) := by decide +kernel
theorem g255_11 : mC xm255 11 = some (.iconst 4, 1) := by decide +kernel
theorem g255_12 : mC xm255 12 = some (.newarray .int, 2) := by decide +kernel
theorem g255_14 : mC xm255 14 = some (.astore_n 3, 1) := by decide +kernel
theorem g255_15 : mC xm255 15 = some (.iconst 0, 1) := by decide +kernel
theorem g255_16 : mC xm255 16 = some (.istore 4, 2) := by decide +kernel
theorem g255_18 : mC xm255 18 = some (.iconst 0, 1) := by decide +kernel
theorem g255_19 : mC xm255 19 = some (.istore 5, 2) := by decide +kernel
theorem g255_21 : mC xm255 21 = some (.iload 5, 2) := by decide +kernel
theorem g255_23 : mC xm255 23 = some (.sipush 303, 3) := by decide +kernel
theorem g255_26 : mC xm255 26 = some (.if_icmp .ge 75, 3) := by decide +kernel
theorem g255_29 : mC xm255 29 = some (.aload_n 0, 1) := by decide +kernel
theorem g255_30 : mC xm255 30 = some (.getfield 165, 3) := by decide +kernel
theorem g255_33 : mC xm255 33 = some (.iload 5, 2) := by decide +kernel
theorem g255_35 : mC xm255 35 = some (.baload, 1) := by decide +kernel
theorem g255_36 : mC xm255 36 = some (.ifCond .eq 59, 3) := by decide +kernel
theorem g255_39 : mC xm255 39 = some (.iload 5, 2) := by decide +kernel
theorem g255_41 : mC xm255 41 = some (.iconst 3, 1) := by decide +kernel
theorem g255_42 : mC xm255 42 = some (.idiv, 1) := by decide +kernel
theorem g255_43 : mC xm255 43 = some (.iload 5, 2) := by decide +kernel
theorem g255_45 : mC xm255 45 = some (.iconst 3, 1) := by decide +kernel
theorem g255_46 : mC xm255 46 = some (.irem, 1) := by decide +kernel
theorem g255_47 : mC xm255 47 = some (.iload_n 1, 1) := by decide +kernel
theorem g255_48 : mC xm255 48 = some (.invokestatic 411, 3) := by decide +kernel
theorem g255_51 : mC xm255 51 = some (.iload_n 2, 1) := by decide +kernel
theorem g255_52 : mC xm255 52 = some (.isub, 1) := by decide +kernel
theorem g255_53 : mC xm255 53 = some (.istore 6, 2) := by decide +kernel
theorem g255_55 : mC xm255 55 = some (.iload 6, 2) := by decide +kernel
theorem g255_57 : mC xm255 57 = some (.iconst 2, 1) := by decide +kernel
theorem g255_58 : mC xm255 58 = some (.if_icmp .ge 8, 3) := by decide +kernel
theorem g255_61 : mC xm255 61 = some (.iload 6, 2) := by decide +kernel
theorem g255_63 : mC xm255 63 = some (.goto 11, 3) := by decide +kernel
theorem g255_66 : mC xm255 66 = some (.iconst 2, 1) := by decide +kernel
theorem g255_67 : mC xm255 67 = some (.iload 6, 2) := by decide +kernel
theorem g255_69 : mC xm255 69 = some (.iadd, 1) := by decide +kernel
theorem g255_70 : mC xm255 70 = some (.sipush 200, 3) := by decide +kernel
theorem g255_73 : mC xm255 73 = some (.isub, 1) := by decide +kernel
theorem g255_74 : mC xm255 74 = some (.istore 7, 2) := by decide +kernel
theorem g255_76 : mC xm255 76 = some (.aload_n 3, 1) := by decide +kernel
theorem g255_77 : mC xm255 77 = some (.iload 7, 2) := by decide +kernel
theorem g255_79 : mC xm255 79 = some (.dup2, 1) := by decide +kernel
theorem g255_80 : mC xm255 80 = some (.iaload, 1) := by decide +kernel
theorem g255_81 : mC xm255 81 = some (.iconst 1, 1) := by decide +kernel
theorem g255_82 : mC xm255 82 = some (.iadd, 1) := by decide +kernel
theorem g255_83 : mC xm255 83 = some (.iastore, 1) := by decide +kernel
theorem g255_84 : mC xm255 84 = some (.iload 4, 2) := by decide +kernel
theorem g255_86 : mC xm255 86 = some (.aload_n 3, 1) := by decide +kernel
theorem g255_87 : mC xm255 87 = some (.iload 7, 2) := by decide +kernel
theorem g255_89 : mC xm255 89 = some (.iaload, 1) := by decide +kernel
theorem g255_90 : mC xm255 90 = some (.invokestatic 414, 3) := by decide +kernel
theorem g255_93 : mC xm255 93 = some (.istore 4, 2) := by decide +kernel
theorem g255_95 : mC xm255 95 = some (.iinc 5 1, 3) := by decide +kernel
theorem g255_98 : mC xm255 98 = some (.goto (-77), 3) := by decide +kernel
theorem g255_101 : mC xm255 101 = some (.iload 4, 2) := by decide +kernel
theorem g255_103 : mC xm255 103 = some (.ireturn, 1) := by decide +kernel
end XH25
