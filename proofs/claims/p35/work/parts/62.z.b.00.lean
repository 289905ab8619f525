/-! p35: the instructions on the ways. -/
noncomputable section XH35
set_option maxRecDepth 1000000 in
theorem g_q35 : tMth x_tb 35 = some xm35 := rfl
set_option maxRecDepth 1000000 in
theorem g_q48 : tMth x_tb 48 = some xm48 := rfl
set_option maxRecDepth 1000000 in
theorem g_q147 : tMth x_tb 147 = some xm147 := rfl
set_option maxRecDepth 1000000 in
theorem g_q148 : tMth x_tb 148 = some xm148 := rfl
set_option maxRecDepth 1000000 in
theorem g_q149 : tMth x_tb 149 = some xm149 := rfl
set_option maxRecDepth 1000000 in
theorem g_q150 : tMth x_tb 150 = some xm150 := rfl
set_option maxRecDepth 1000000 in
theorem g_q152 : tMth x_tb 152 = some xm152 := rfl
set_option maxRecDepth 1000000 in
theorem g_q153 : tMth x_tb 153 = some xm153 := rfl
set_option maxRecDepth 1000000 in
theorem g_q154 : tMth x_tb 154 = some xm154 := rfl
set_option maxRecDepth 1000000 in
theorem g_q155 : tMth x_tb 155 = some xm155 := rfl
set_option maxRecDepth 1000000 in
theorem g_q156 : tMth x_tb 156 = some xm156 := rfl
set_option maxRecDepth 1000000 in
theorem g_q181 : tMth x_tb 181 = some xm181 := rfl
set_option maxRecDepth 1000000 in
theorem g_q258 : tMth x_tb 258 = some xm258 := rfl
set_option maxRecDepth 1000000 in
theorem g_q259 : tMth x_tb 259 = some xm259 := rfl
set_option maxRecDepth 1000000 in
theorem g_q260 : tMth x_tb 260 = some xm260 := rfl
set_option maxRecDepth 1000000 in
theorem g_q261 : tMth x_tb 261 = some xm261 := rfl
theorem g35_0 : mC xm35 0 = some (.iload_n 0, 1) := by decide +kernel
theorem g35_1 : mC xm35 1 = some (.iload_n 1, 1) := by decide +kernel
theorem g35_2 : mC xm35 2 = some (.if_icmp .lt 12, 3) := by decide +kernel
theorem g35_5 : mC xm35 5 = some (.iload_n 0, 1) := by decide +kernel
theorem g35_6 : mC xm35 6 = some (.iload_n 2, 1) := by decide +kernel
theorem g35_7 : mC xm35 7 = some (.if_icmp .gt 7, 3) := by decide +kernel
theorem g35_10 : mC xm35 10 = some (.iconst 1, 1) := by decide +kernel
theorem g35_11 : mC xm35 11 = some (.goto 4, 3) := by decide +kernel
theorem g35_14 : mC xm35 14 = some (.iconst 0, 1) := by decide +kernel
theorem g35_15 : mC xm35 15 = some (.ireturn, 1) := by decide +kernel
theorem g48_0 : mC xm48 0 = some (.iload_n 1, 1) := by decide +kernel
theorem g48_1 : mC xm48 1 = some (.ifCond .lt 22, 3) := by decide +kernel
theorem g48_4 : mC xm48 4 = some (.iload_n 1, 1) := by decide +kernel
theorem g48_5 : mC xm48 5 = some (.bipush 32, 2) := by decide +kernel
theorem g48_7 : mC xm48 7 = some (.if_icmp .ge 16, 3) := by decide +kernel
theorem g48_10 : mC xm48 10 = some (.iload_n 0, 1) := by decide +kernel
theorem g48_11 : mC xm48 11 = some (.iload_n 1, 1) := by decide +kernel
theorem g48_12 : mC xm48 12 = some (.ishr, 1) := by decide +kernel
theorem g48_13 : mC xm48 13 = some (.iconst 1, 1) := by decide +kernel
theorem g48_14 : mC xm48 14 = some (.iand, 1) := by decide +kernel
theorem g48_15 : mC xm48 15 = some (.iconst 1, 1) := by decide +kernel
theorem g48_16 : mC xm48 16 = some (.if_icmp .ne 7, 3) := by decide +kernel
theorem g48_19 : mC xm48 19 = some (.iconst 1, 1) := by decide +kernel
theorem g48_20 : mC xm48 20 = some (.goto 4, 3) := by decide +kernel
theorem g48_23 : mC xm48 23 = some (.iconst 0, 1) := by decide +kernel
theorem g48_24 : mC xm48 24 = some (.ireturn, 1) := by decide +kernel
theorem g147_0 : mC xm147 0 = some (.iload_n 1, 1) := by decide +kernel
theorem g147_1 : mC xm147 1 = some (.iconst 0, 1) := by decide +kernel
theorem g147_2 : mC xm147 2 = some (.bipush 99, 2) := by decide +kernel
theorem g147_4 : mC xm147 4 = some (.invokestatic 178, 3) := by decide +kernel
theorem g147_7 : mC xm147 7 = some (.ifCond .eq 35, 3) := by decide +kernel
theorem g147_10 : mC xm147 10 = some (.iload_n 2, 1) := by decide +kernel
theorem g147_11 : mC xm147 11 = some (.iconst 0, 1) := by decide +kernel
theorem g147_12 : mC xm147 12 = some (.sipush 899, 3) := by decide +kernel
theorem g147_15 : mC xm147 15 = some (.invokestatic 178, 3) := by decide +kernel
theorem g147_18 : mC xm147 18 = some (.ifCond .eq 24, 3) := by decide +kernel
theorem g147_21 : mC xm147 21 = some (.iload_n 3, 1) := by decide +kernel
theorem g147_22 : mC xm147 22 = some (.iconst 1, 1) := by decide +kernel
theorem g147_23 : mC xm147 23 = some (.bipush 99, 2) := by decide +kernel
theorem g147_25 : mC xm147 25 = some (.invokestatic 178, 3) := by decide +kernel
theorem g147_28 : mC xm147 28 = some (.ifCond .eq 14, 3) := by decide +kernel
theorem g147_31 : mC xm147 31 = some (.iload 4, 2) := by decide +kernel
theorem g147_33 : mC xm147 33 = some (.iconst 0, 1) := by decide +kernel
theorem g147_34 : mC xm147 34 = some (.bipush 99, 2) := by decide +kernel
theorem g147_36 : mC xm147 36 = some (.invokestatic 178, 3) := by decide +kernel
theorem g147_39 : mC xm147 39 = some (.ifCond .ne 6, 3) := by decide +kernel
theorem g147_42 : mC xm147 42 = some (.bipush (-2), 2) := by decide +kernel
theorem g147_44 : mC xm147 44 = some (.ireturn, 1) := by decide +kernel
theorem g147_45 : mC xm147 45 = some (.aload_n 0, 1) := by decide +kernel
theorem g147_46 : mC xm147 46 = some (.getfield 81, 3) := by decide +kernel
theorem g147_49 : mC xm147 49 = some (.iload_n 1, 1) := by decide +kernel
theorem g147_50 : mC xm147 50 = some (.iload_n 2, 1) := by decide +kernel
theorem g147_51 : mC xm147 51 = some (.iload_n 3, 1) := by decide +kernel
theorem g147_52 : mC xm147 52 = some (.iload 4, 2) := by decide +kernel
theorem g147_54 : mC xm147 54 = some (.invokevirtual 387, 3) := by decide +kernel
theorem g147_57 : mC xm147 57 = some (.ireturn, 1) := by decide +kernel
theorem g148_0 : mC xm148 0 = some (.aload_n 0, 1) := by decide +kernel
theorem g148_1 : mC xm148 1 = some (.getfield 30, 3) := by decide +kernel
theorem g148_4 : mC xm148 4 = some (.bipush 8, 2) := by decide +kernel
theorem g148_6 : mC xm148 6 = some (.if_icmp .lt 6, 3) := by decide +kernel
theorem g148_9 : mC xm148 9 = some (.bipush (-4), 2) := by decide +kernel
theorem g148_11 : mC xm148 11 = some (.ireturn, 1) := by decide +kernel
theorem g148_12 : mC xm148 12 = some (.aload_n 0, 1) := by decide +kernel
theorem g148_13 : mC xm148 13 = some (.getfield 30, 3) := by decide +kernel
theorem g148_16 : mC xm148 16 = some (.istore 5, 2) := by decide +kernel
theorem g148_18 : mC xm148 18 = some (.aload_n 0, 1) := by decide +kernel
theorem g148_19 : mC xm148 19 = some (.getfield 9, 3) := by decide +kernel
theorem g148_22 : mC xm148 22 = some (.iload 5, 2) := by decide +kernel
theorem g148_24 : mC xm148 24 = some (.iload_n 1, 1) := by decide +kernel
theorem g148_25 : mC xm148 25 = some (.iastore, 1) := by decide +kernel
theorem g148_26 : mC xm148 26 = some (.aload_n 0, 1) := by decide +kernel
theorem g148_27 : mC xm148 27 = some (.getfield 15, 3) := by decide +kernel
theorem g148_30 : mC xm148 30 = some (.iload 5, 2) := by decide +kernel
theorem g148_32 : mC xm148 32 = some (.iload_n 2, 1) := by decide +kernel
theorem g148_33 : mC xm148 33 = some (.iastore, 1) := by decide +kernel
theorem g148_34 : mC xm148 34 = some (.aload_n 0, 1) := by decide +kernel
theorem g148_35 : mC xm148 35 = some (.getfield 18, 3) := by decide +kernel
theorem g148_38 : mC xm148 38 = some (.iload 5, 2) := by decide +kernel
theorem g148_40 : mC xm148 40 = some (.iload_n 3, 1) := by decide +kernel
theorem g148_41 : mC xm148 41 = some (.iastore, 1) := by decide +kernel
theorem g148_42 : mC xm148 42 = some (.aload_n 0, 1) := by decide +kernel
theorem g148_43 : mC xm148 43 = some (.getfield 21, 3) := by decide +kernel
theorem g148_46 : mC xm148 46 = some (.iload 5, 2) := by decide +kernel
theorem g148_48 : mC xm148 48 = some (.iload 4, 2) := by decide +kernel
theorem g148_50 : mC xm148 50 = some (.iastore, 1) := by decide +kernel
theorem g148_51 : mC xm148 51 = some (.iload 5, 2) := by decide +kernel
theorem g148_53 : mC xm148 53 = some (.istore 6, 2) := by decide +kernel
theorem g148_55 : mC xm148 55 = some (.iload 6, 2) := by decide +kernel
theorem g148_57 : mC xm148 57 = some (.ifCond .le 43, 3) := by decide +kernel
theorem g148_60 : mC xm148 60 = some (.aload_n 0, 1) := by decide +kernel
theorem g148_61 : mC xm148 61 = some (.getfield 15, 3) := by decide +kernel
theorem g148_64 : mC xm148 64 = some (.aload_n 0, 1) := by decide +kernel
theorem g148_65 : mC xm148 65 = some (.getfield 24, 3) := by decide +kernel
theorem g148_68 : mC xm148 68 = some (.iload 6, 2) := by decide +kernel
theorem g148_70 : mC xm148 70 = some (.iconst 1, 1) := by decide +kernel
theorem g148_71 : mC xm148 71 = some (.isub, 1) := by decide +kernel
theorem g148_72 : mC xm148 72 = some (.iaload, 1) := by decide +kernel
theorem g148_73 : mC xm148 73 = some (.iaload, 1) := by decide +kernel
theorem g148_74 : mC xm148 74 = some (.iload_n 2, 1) := by decide +kernel
theorem g148_75 : mC xm148 75 = some (.if_icmp .le 25, 3) := by decide +kernel
theorem g148_78 : mC xm148 78 = some (.aload_n 0, 1) := by decide +kernel
theorem g148_79 : mC xm148 79 = some (.getfield 24, 3) := by decide +kernel
theorem g148_82 : mC xm148 82 = some (.iload 6, 2) := by decide +kernel
theorem g148_84 : mC xm148 84 = some (.aload_n 0, 1) := by decide +kernel
theorem g148_85 : mC xm148 85 = some (.getfield 24, 3) := by decide +kernel
theorem g148_88 : mC xm148 88 = some (.iload 6, 2) := by decide +kernel
theorem g148_90 : mC xm148 90 = some (.iconst 1, 1) := by decide +kernel
theorem g148_91 : mC xm148 91 = some (.isub, 1) := by decide +kernel
theorem g148_92 : mC xm148 92 = some (.iaload, 1) := by decide +kernel
theorem g148_93 : mC xm148 93 = some (.iastore, 1) := by decide +kernel
theorem g148_94 : mC xm148 94 = some (.iinc 6 (-1), 3) := by decide +kernel
theorem g148_97 : mC xm148 97 = some (.goto (-42), 3) := by decide +kernel
theorem g148_100 : mC xm148 100 = some (.aload_n 0, 1) := by decide +kernel
theorem g148_101 : mC xm148 101 = some (.getfield 24, 3) := by decide +kernel
theorem g148_104 : mC xm148 104 = some (.iload 6, 2) := by decide +kernel
theorem g148_106 : mC xm148 106 = some (.iload 5, 2) := by decide +kernel
theorem g148_108 : mC xm148 108 = some (.iastore, 1) := by decide +kernel
theorem g148_109 : mC xm148 109 = some (.aload_n 0, 1) := by decide +kernel
theorem g148_110 : mC xm148 110 = some (.dup, 1) := by decide +kernel
theorem g148_111 : mC xm148 111 = some (.getfield 30, 3) := by decide +kernel
theorem g148_114 : mC xm148 114 = some (.iconst 1, 1) := by decide +kernel
theorem g148_115 : mC xm148 115 = some (.iadd, 1) := by decide +kernel
theorem g148_116 : mC xm148 116 = some (.putfield 30, 3) := by decide +kernel
theorem g148_119 : mC xm148 119 = some (.iconst 1, 1) := by decide +kernel
theorem g148_120 : mC xm148 120 = some (.iload 5, 2) := by decide +kernel
theorem g148_122 : mC xm148 122 = some (.ishl, 1) := by decide +kernel
theorem g148_123 : mC xm148 123 = some (.istore 7, 2) := by decide +kernel
theorem g148_125 : mC xm148 125 = some (.iload 7, 2) := by decide +kernel
theorem g148_127 : mC xm148 127 = some (.iconst 2, 1) := by decide +kernel
theorem g148_128 : mC xm148 128 = some (.iload 5, 2) := by decide +kernel
theorem g148_130 : mC xm148 130 = some (.ishl, 1) := by decide +kernel
theorem g148_131 : mC xm148 131 = some (.if_icmp .ge 22, 3) := by decide +kernel
theorem g148_134 : mC xm148 134 = some (.aload_n 0, 1) := by decide +kernel
theorem g148_135 : mC xm148 135 = some (.getfield 27, 3) := by decide +kernel
theorem g148_138 : mC xm148 138 = some (.iload 7, 2) := by decide +kernel
theorem g148_140 : mC xm148 140 = some (.aload_n 0, 1) := by decide +kernel
theorem g148_141 : mC xm148 141 = some (.iload 7, 2) := by decide +kernel
theorem g148_143 : mC xm148 143 = some (.invokevirtual 34, 3) := by decide +kernel
theorem g148_146 : mC xm148 146 = some (.iastore, 1) := by decide +kernel
theorem g148_147 : mC xm148 147 = some (.iinc 7 1, 3) := by decide +kernel
theorem g148_150 : mC xm148 150 = some (.goto (-25), 3) := by decide +kernel
theorem g148_153 : mC xm148 153 = some (.iload 5, 2) := by decide +kernel
theorem g148_155 : mC xm148 155 = some (.ireturn, 1) := by decide +kernel
theorem g149_0 : mC xm149 0 = some (.aload_n 0, 1) := by decide +kernel
theorem g149_1 : mC xm149 1 = some (.iload_n 1, 1) := by decide +kernel
theorem g149_2 : mC xm149 2 = some (.invokevirtual 38, 3) := by decide +kernel
theorem g149_5 : mC xm149 5 = some (.ifCond .eq 5, 3) := by decide +kernel
theorem g149_8 : mC xm149 8 = some (.iconst 1, 1) := by decide +kernel
theorem g149_9 : mC xm149 9 = some (.ireturn, 1) := by decide +kernel
theorem g149_10 : mC xm149 10 = some (.bipush 9, 2) := by decide +kernel
theorem g149_12 : mC xm149 12 = some (.istore_n 2, 1) := by decide +kernel
theorem g149_13 : mC xm149 13 = some (.iconst 1, 1) := by decide +kernel
theorem g149_14 : mC xm149 14 = some (.istore_n 3, 1) := by decide +kernel
theorem g149_15 : mC xm149 15 = some (.iload_n 3, 1) := by decide +kernel
theorem g149_16 : mC xm149 16 = some (.iload_n 1, 1) := by decide +kernel
theorem g149_17 : mC xm149 17 = some (.if_icmp .ge 42, 3) := by decide +kernel
theorem g149_20 : mC xm149 20 = some (.iload_n 3, 1) := by decide +kernel
theorem g149_21 : mC xm149 21 = some (.iload_n 1, 1) := by decide +kernel
theorem g149_22 : mC xm149 22 = some (.iconst (-1), 1) := by decide +kernel
theorem g149_23 : mC xm149 23 = some (.ixor, 1) := by decide +kernel
theorem g149_24 : mC xm149 24 = some (.iand, 1) := by decide +kernel
theorem g149_25 : mC xm149 25 = some (.ifCond .ne 28, 3) := by decide +kernel
theorem g149_28 : mC xm149 28 = some (.aload_n 0, 1) := by decide +kernel
theorem g149_29 : mC xm149 29 = some (.getfield 27, 3) := by decide +kernel
theorem g149_32 : mC xm149 32 = some (.iload_n 3, 1) := by decide +kernel
theorem g149_33 : mC xm149 33 = some (.iaload, 1) := by decide +kernel
theorem g149_34 : mC xm149 34 = some (.iconst 1, 1) := by decide +kernel
theorem g149_35 : mC xm149 35 = some (.if_icmp .ne 18, 3) := by decide +kernel
theorem g149_38 : mC xm149 38 = some (.iload_n 2, 1) := by decide +kernel
theorem g149_39 : mC xm149 39 = some (.iconst 1, 1) := by decide +kernel
theorem g149_40 : mC xm149 40 = some (.aload_n 0, 1) := by decide +kernel
theorem g149_41 : mC xm149 41 = some (.getfield 27, 3) := by decide +kernel
theorem g149_44 : mC xm149 44 = some (.iload_n 1, 1) := by decide +kernel
theorem g149_45 : mC xm149 45 = some (.iload_n 3, 1) := by decide +kernel
theorem g149_46 : mC xm149 46 = some (.ixor, 1) := by decide +kernel
theorem g149_47 : mC xm149 47 = some (.iaload, 1) := by decide +kernel
theorem g149_48 : mC xm149 48 = some (.iadd, 1) := by decide +kernel
theorem g149_49 : mC xm149 49 = some (.invokestatic 42, 3) := by decide +kernel
theorem g149_52 : mC xm149 52 = some (.istore_n 2, 1) := by decide +kernel
theorem g149_53 : mC xm149 53 = some (.iinc 3 1, 3) := by decide +kernel
theorem g149_56 : mC xm149 56 = some (.goto (-41), 3) := by decide +kernel
theorem g149_59 : mC xm149 59 = some (.iload_n 2, 1) := by decide +kernel
theorem g149_60 : mC xm149 60 = some (.ireturn, 1) := by decide +kernel
theorem g150_0 : mC xm150 0 = some (.iconst 0, 1) := by decide +kernel
theorem g150_1 : mC xm150 1 = some (.istore_n 2, 1) := by decide +kernel
theorem g150_2 : mC xm150 2 = some (.iconst 0, 1) := by decide +kernel
theorem g150_3 : mC xm150 3 = some (.istore_n 3, 1) := by decide +kernel
theorem g150_4 : mC xm150 4 = some (.iconst 0, 1) := by decide +kernel
theorem g150_5 : mC xm150 5 = some (.istore 4, 2) := by decide +kernel
theorem g150_7 : mC xm150 7 = some (.iload 4, 2) := by decide +kernel
theorem g150_9 : mC xm150 9 = some (.aload_n 0, 1) := by decide +kernel
theorem g150_10 : mC xm150 10 = some (.getfield 30, 3) := by decide +kernel
theorem g150_13 : mC xm150 13 = some (.if_icmp .ge 77, 3) := by decide +kernel
theorem g150_16 : mC xm150 16 = some (.aload_n 0, 1) := by decide +kernel
theorem g150_17 : mC xm150 17 = some (.getfield 24, 3) := by decide +kernel
theorem g150_20 : mC xm150 20 = some (.iload 4, 2) := by decide +kernel
theorem g150_22 : mC xm150 22 = some (.iaload, 1) := by decide +kernel
theorem g150_23 : mC xm150 23 = some (.istore 5, 2) := by decide +kernel
theorem g150_25 : mC xm150 25 = some (.iload_n 1, 1) := by decide +kernel
theorem g150_26 : mC xm150 26 = some (.iload 5, 2) := by decide +kernel
theorem g150_28 : mC xm150 28 = some (.invokestatic 48, 3) := by decide +kernel
theorem g150_31 : mC xm150 31 = some (.ifCond .eq 53, 3) := by decide +kernel
theorem g150_34 : mC xm150 34 = some (.iload_n 3, 1) := by decide +kernel
theorem g150_35 : mC xm150 35 = some (.aload_n 0, 1) := by decide +kernel
theorem g150_36 : mC xm150 36 = some (.getfield 9, 3) := by decide +kernel
theorem g150_39 : mC xm150 39 = some (.iload 5, 2) := by decide +kernel
theorem g150_41 : mC xm150 41 = some (.iaload, 1) := by decide +kernel
theorem g150_42 : mC xm150 42 = some (.iload_n 2, 1) := by decide +kernel
theorem g150_43 : mC xm150 43 = some (.isub, 1) := by decide +kernel
theorem g150_44 : mC xm150 44 = some (.invokestatic 52, 3) := by decide +kernel
theorem g150_47 : mC xm150 47 = some (.iadd, 1) := by decide +kernel
theorem g150_48 : mC xm150 48 = some (.aload_n 0, 1) := by decide +kernel
theorem g150_49 : mC xm150 49 = some (.getfield 15, 3) := by decide +kernel
theorem g150_52 : mC xm150 52 = some (.iload 5, 2) := by decide +kernel
theorem g150_54 : mC xm150 54 = some (.iaload, 1) := by decide +kernel
theorem g150_55 : mC xm150 55 = some (.if_icmp .le 5, 3) := by decide +kernel
theorem g150_58 : mC xm150 58 = some (.iconst 0, 1) := by decide +kernel
theorem g150_59 : mC xm150 59 = some (.ireturn, 1) := by decide +kernel
theorem g150_60 : mC xm150 60 = some (.aload_n 0, 1) := by decide +kernel
theorem g150_61 : mC xm150 61 = some (.getfield 9, 3) := by decide +kernel
theorem g150_64 : mC xm150 64 = some (.iload 5, 2) := by decide +kernel
theorem g150_66 : mC xm150 66 = some (.iaload, 1) := by decide +kernel
theorem g150_67 : mC xm150 67 = some (.istore_n 2, 1) := by decide +kernel
theorem g150_68 : mC xm150 68 = some (.aload_n 0, 1) := by decide +kernel
theorem g150_69 : mC xm150 69 = some (.getfield 15, 3) := by decide +kernel
theorem g150_72 : mC xm150 72 = some (.iload 5, 2) := by decide +kernel
theorem g150_74 : mC xm150 74 = some (.iaload, 1) := by decide +kernel
theorem g150_75 : mC xm150 75 = some (.aload_n 0, 1) := by decide +kernel
theorem g150_76 : mC xm150 76 = some (.getfield 18, 3) := by decide +kernel
theorem g150_79 : mC xm150 79 = some (.iload 5, 2) := by decide +kernel
theorem g150_81 : mC xm150 81 = some (.iaload, 1) := by decide +kernel
theorem g150_82 : mC xm150 82 = some (.iadd, 1) := by decide +kernel
theorem g150_83 : mC xm150 83 = some (.istore_n 3, 1) := by decide +kernel
theorem g150_84 : mC xm150 84 = some (.iinc 4 1, 3) := by decide +kernel
theorem g150_87 : mC xm150 87 = some (.goto (-80), 3) := by decide +kernel
theorem g150_90 : mC xm150 90 = some (.iconst 1, 1) := by decide +kernel
theorem g150_91 : mC xm150 91 = some (.ireturn, 1) := by decide +kernel
theorem g152_0 : mC xm152 0 = some (.iload_n 2, 1) := by decide +kernel
theorem g152_1 : mC xm152 1 = some (.iconst 0, 1) := by decide +kernel
theorem g152_2 : mC xm152 2 = some (.iconst 4, 1) := by decide +kernel
theorem g152_3 : mC xm152 3 = some (.invokestatic 178, 3) := by decide +kernel
theorem g152_6 : mC xm152 6 = some (.ifCond .ne 5, 3) := by decide +kernel
theorem g152_9 : mC xm152 9 = some (.iconst (-1), 1) := by decide +kernel
theorem g152_10 : mC xm152 10 = some (.ireturn, 1) := by decide +kernel
theorem g152_11 : mC xm152 11 = some (.iload_n 1, 1) := by decide +kernel
theorem g152_12 : mC xm152 12 = some (.iconst 1, 1) := by decide +kernel
theorem g152_13 : mC xm152 13 = some (.iconst 3, 1) := by decide +kernel
theorem g152_14 : mC xm152 14 = some (.invokestatic 178, 3) := by decide +kernel
theorem g152_17 : mC xm152 17 = some (.ifCond .ne 6, 3) := by decide +kernel
theorem g152_20 : mC xm152 20 = some (.bipush (-2), 2) := by decide +kernel
theorem g152_22 : mC xm152 22 = some (.ireturn, 1) := by decide +kernel
theorem g152_23 : mC xm152 23 = some (.iload_n 2, 1) := by decide +kernel
theorem g152_24 : mC xm152 24 = some (.iconst 2, 1) := by decide +kernel
theorem g152_25 : mC xm152 25 = some (.isub, 1) := by decide +kernel
theorem g152_26 : mC xm152 26 = some (.iload_n 1, 1) := by decide +kernel
theorem g152_27 : mC xm152 27 = some (.if_icmp .lt 5, 3) := by decide +kernel
theorem g152_30 : mC xm152 30 = some (.iconst (-1), 1) := by decide +kernel
theorem g152_31 : mC xm152 31 = some (.ireturn, 1) := by decide +kernel
theorem g152_32 : mC xm152 32 = some (.aload_n 0, 1) := by decide +kernel
theorem g152_33 : mC xm152 33 = some (.getfield 81, 3) := by decide +kernel
theorem g152_36 : mC xm152 36 = some (.iload_n 1, 1) := by decide +kernel
theorem g152_37 : mC xm152 37 = some (.invokevirtual 390, 3) := by decide +kernel
theorem g152_40 : mC xm152 40 = some (.istore_n 3, 1) := by decide +kernel
theorem g152_41 : mC xm152 41 = some (.iload_n 2, 1) := by decide +kernel
theorem g152_42 : mC xm152 42 = some (.lookupswitch (37) #[(0, (26)), (1, (35))], 26) := by decide +kernel
theorem g152_68 : mC xm152 68 = some (.aload_n 0, 1) := by decide +kernel
theorem g152_69 : mC xm152 69 = some (.getfield 81, 3) := by decide +kernel
theorem g152_72 : mC xm152 72 = some (.iload_n 3, 1) := by decide +kernel
theorem g152_73 : mC xm152 73 = some (.invokevirtual 393, 3) := by decide +kernel
theorem g152_76 : mC xm152 76 = some (.ireturn, 1) := by decide +kernel
theorem g152_77 : mC xm152 77 = some (.iload_n 3, 1) := by decide +kernel
theorem g152_78 : mC xm152 78 = some (.ireturn, 1) := by decide +kernel
theorem g152_79 : mC xm152 79 = some (.aload_n 0, 1) := by decide +kernel
theorem g152_80 : mC xm152 80 = some (.getfield 81, 3) := by decide +kernel
theorem g152_83 : mC xm152 83 = some (.iload_n 3, 1) := by decide +kernel
theorem g152_84 : mC xm152 84 = some (.iload_n 1, 1) := by decide +kernel
theorem g152_85 : mC xm152 85 = some (.iload_n 2, 1) := by decide +kernel
theorem g152_86 : mC xm152 86 = some (.iconst 2, 1) := by decide +kernel
theorem g152_87 : mC xm152 87 = some (.isub, 1) := by decide +kernel
theorem g152_88 : mC xm152 88 = some (.invokevirtual 396, 3) := by decide +kernel
theorem g152_91 : mC xm152 91 = some (.ireturn, 1) := by decide +kernel
theorem g153_0 : mC xm153 0 = some (.iconst 0, 1) := by decide +kernel
theorem g153_1 : mC xm153 1 = some (.istore_n 2, 1) := by decide +kernel
theorem g153_2 : mC xm153 2 = some (.iconst 1, 1) := by decide +kernel
theorem g153_3 : mC xm153 3 = some (.istore_n 3, 1) := by decide +kernel
theorem g153_4 : mC xm153 4 = some (.iload_n 3, 1) := by decide +kernel
theorem g153_5 : mC xm153 5 = some (.iconst 1, 1) := by decide +kernel
theorem g153_6 : mC xm153 6 = some (.aload_n 0, 1) := by decide +kernel
theorem g153_7 : mC xm153 7 = some (.getfield 30, 3) := by decide +kernel
theorem g153_10 : mC xm153 10 = some (.ishl, 1) := by decide +kernel
theorem g153_11 : mC xm153 11 = some (.if_icmp .ge 34, 3) := by decide +kernel
theorem g153_14 : mC xm153 14 = some (.aload_n 0, 1) := by decide +kernel
theorem g153_15 : mC xm153 15 = some (.getfield 27, 3) := by decide +kernel
theorem g153_18 : mC xm153 18 = some (.iload_n 3, 1) := by decide +kernel
theorem g153_19 : mC xm153 19 = some (.iaload, 1) := by decide +kernel
theorem g153_20 : mC xm153 20 = some (.iload_n 1, 1) := by decide +kernel
theorem g153_21 : mC xm153 21 = some (.if_icmp .gt 18, 3) := by decide +kernel
theorem g153_24 : mC xm153 24 = some (.aload_n 0, 1) := by decide +kernel
theorem g153_25 : mC xm153 25 = some (.iload_n 3, 1) := by decide +kernel
theorem g153_26 : mC xm153 26 = some (.invokevirtual 55, 3) := by decide +kernel
theorem g153_29 : mC xm153 29 = some (.aload_n 0, 1) := by decide +kernel
theorem g153_30 : mC xm153 30 = some (.iload_n 2, 1) := by decide +kernel
theorem g153_31 : mC xm153 31 = some (.invokevirtual 55, 3) := by decide +kernel
theorem g153_34 : mC xm153 34 = some (.if_icmp .le 5, 3) := by decide +kernel
theorem g153_37 : mC xm153 37 = some (.iload_n 3, 1) := by decide +kernel
theorem g153_38 : mC xm153 38 = some (.istore_n 2, 1) := by decide +kernel
theorem g153_39 : mC xm153 39 = some (.iinc 3 1, 3) := by decide +kernel
theorem g153_42 : mC xm153 42 = some (.goto (-38), 3) := by decide +kernel
theorem g153_45 : mC xm153 45 = some (.iload_n 2, 1) := by decide +kernel
theorem g153_46 : mC xm153 46 = some (.ireturn, 1) := by decide +kernel
theorem g154_0 : mC xm154 0 = some (.iconst 0, 1) := by decide +kernel
theorem g154_1 : mC xm154 1 = some (.istore_n 2, 1) := by decide +kernel
theorem g154_2 : mC xm154 2 = some (.iconst 0, 1) := by decide +kernel
theorem g154_3 : mC xm154 3 = some (.istore_n 3, 1) := by decide +kernel
theorem g154_4 : mC xm154 4 = some (.iload_n 3, 1) := by decide +kernel
theorem g154_5 : mC xm154 5 = some (.aload_n 0, 1) := by decide +kernel
theorem g154_6 : mC xm154 6 = some (.getfield 30, 3) := by decide +kernel
theorem g154_9 : mC xm154 9 = some (.if_icmp .ge 30, 3) := by decide +kernel
theorem g154_12 : mC xm154 12 = some (.iload_n 2, 1) := by decide +kernel
theorem g154_13 : mC xm154 13 = some (.iload_n 1, 1) := by decide +kernel
theorem g154_14 : mC xm154 14 = some (.iload_n 3, 1) := by decide +kernel
theorem g154_15 : mC xm154 15 = some (.invokestatic 48, 3) := by decide +kernel
theorem g154_18 : mC xm154 18 = some (.ifCond .eq 12, 3) := by decide +kernel
theorem g154_21 : mC xm154 21 = some (.aload_n 0, 1) := by decide +kernel
theorem g154_22 : mC xm154 22 = some (.getfield 21, 3) := by decide +kernel
theorem g154_25 : mC xm154 25 = some (.iload_n 3, 1) := by decide +kernel
theorem g154_26 : mC xm154 26 = some (.iaload, 1) := by decide +kernel
theorem g154_27 : mC xm154 27 = some (.goto 4, 3) := by decide +kernel
theorem g154_30 : mC xm154 30 = some (.iconst 0, 1) := by decide +kernel
theorem g154_31 : mC xm154 31 = some (.iadd, 1) := by decide +kernel
theorem g154_32 : mC xm154 32 = some (.istore_n 2, 1) := by decide +kernel
theorem g154_33 : mC xm154 33 = some (.iinc 3 1, 3) := by decide +kernel
theorem g154_36 : mC xm154 36 = some (.goto (-32), 3) := by decide +kernel
theorem g154_39 : mC xm154 39 = some (.iload_n 2, 1) := by decide +kernel
theorem g154_40 : mC xm154 40 = some (.ireturn, 1) := by decide +kernel
theorem g155_0 : mC xm155 0 = some (.iload_n 1, 1) := by decide +kernel
theorem g155_1 : mC xm155 1 = some (.istore 4, 2) := by decide +kernel
theorem g155_3 : mC xm155 3 = some (.iconst 0, 1) := by decide +kernel
theorem g155_4 : mC xm155 4 = some (.istore 5, 2) := by decide +kernel
theorem g155_6 : mC xm155 6 = some (.iconst 0, 1) := by decide +kernel
theorem g155_7 : mC xm155 7 = some (.istore 6, 2) := by decide +kernel
theorem g155_9 : mC xm155 9 = some (.iload 6, 2) := by decide +kernel
theorem g155_11 : mC xm155 11 = some (.iload_n 3, 1) := by decide +kernel
theorem g155_12 : mC xm155 12 = some (.if_icmp .gt 30, 3) := by decide +kernel
theorem g155_15 : mC xm155 15 = some (.aload_n 0, 1) := by decide +kernel
theorem g155_16 : mC xm155 16 = some (.iload 4, 2) := by decide +kernel
theorem g155_18 : mC xm155 18 = some (.iload_n 2, 1) := by decide +kernel
theorem g155_19 : mC xm155 19 = some (.iconst 1, 1) := by decide +kernel
theorem g155_20 : mC xm155 20 = some (.isub, 1) := by decide +kernel
theorem g155_21 : mC xm155 21 = some (.iload 6, 2) := by decide +kernel
theorem g155_23 : mC xm155 23 = some (.isub, 1) := by decide +kernel
theorem g155_24 : mC xm155 24 = some (.invokevirtual 58, 3) := by decide +kernel
theorem g155_27 : mC xm155 27 = some (.istore 5, 2) := by decide +kernel
theorem g155_29 : mC xm155 29 = some (.iload 4, 2) := by decide +kernel
theorem g155_31 : mC xm155 31 = some (.iload 5, 2) := by decide +kernel
theorem g155_33 : mC xm155 33 = some (.ixor, 1) := by decide +kernel
theorem g155_34 : mC xm155 34 = some (.istore 4, 2) := by decide +kernel
theorem g155_36 : mC xm155 36 = some (.iinc 6 1, 3) := by decide +kernel
theorem g155_39 : mC xm155 39 = some (.goto (-30), 3) := by decide +kernel
theorem g155_42 : mC xm155 42 = some (.iload 5, 2) := by decide +kernel
theorem g155_44 : mC xm155 44 = some (.ireturn, 1) := by decide +kernel
theorem g156_0 : mC xm156 0 = some (.iload_n 1, 1) := by decide +kernel
theorem g156_1 : mC xm156 1 = some (.istore_n 3, 1) := by decide +kernel
theorem g156_2 : mC xm156 2 = some (.iload_n 3, 1) := by decide +kernel
theorem g156_3 : mC xm156 3 = some (.ifCond .le 41, 3) := by decide +kernel
theorem g156_6 : mC xm156 6 = some (.iload_n 3, 1) := by decide +kernel
theorem g156_7 : mC xm156 7 = some (.iload_n 1, 1) := by decide +kernel
theorem g156_8 : mC xm156 8 = some (.iconst (-1), 1) := by decide +kernel
theorem g156_9 : mC xm156 9 = some (.ixor, 1) := by decide +kernel
theorem g156_10 : mC xm156 10 = some (.iand, 1) := by decide +kernel
theorem g156_11 : mC xm156 11 = some (.ifCond .ne 27, 3) := by decide +kernel
theorem g156_14 : mC xm156 14 = some (.aload_n 0, 1) := by decide +kernel
theorem g156_15 : mC xm156 15 = some (.getfield 27, 3) := by decide +kernel
theorem g156_18 : mC xm156 18 = some (.iload_n 3, 1) := by decide +kernel
theorem g156_19 : mC xm156 19 = some (.iaload, 1) := by decide +kernel
theorem g156_20 : mC xm156 20 = some (.iconst 1, 1) := by decide +kernel
theorem g156_21 : mC xm156 21 = some (.if_icmp .ne 17, 3) := by decide +kernel
theorem g156_24 : mC xm156 24 = some (.aload_n 0, 1) := by decide +kernel
theorem g156_25 : mC xm156 25 = some (.getfield 27, 3) := by decide +kernel
theorem g156_28 : mC xm156 28 = some (.iload_n 1, 1) := by decide +kernel
theorem g156_29 : mC xm156 29 = some (.iload_n 3, 1) := by decide +kernel
theorem g156_30 : mC xm156 30 = some (.ixor, 1) := by decide +kernel
theorem g156_31 : mC xm156 31 = some (.iaload, 1) := by decide +kernel
theorem g156_32 : mC xm156 32 = some (.iload_n 2, 1) := by decide +kernel
theorem g156_33 : mC xm156 33 = some (.if_icmp .gt 5, 3) := by decide +kernel
theorem g156_36 : mC xm156 36 = some (.iload_n 3, 1) := by decide +kernel
theorem g156_37 : mC xm156 37 = some (.ireturn, 1) := by decide +kernel
theorem g156_38 : mC xm156 38 = some (.iinc 3 (-1), 3) := by decide +kernel
theorem g156_41 : mC xm156 41 = some (.goto (-39), 3) := by decide +kernel
theorem g156_44 : mC xm156 44 = some (.iconst 0, 1) := by decide +kernel
theorem g156_45 : mC xm156 45 = some (.ireturn, 1) := by decide +kernel
theorem g181_0 : mC xm181 0 = some (.iload_n 1, 1) := by decide +kernel
theorem g181_1 : mC xm181 1 = some (.iload_n 0, 1) := by decide +kernel
theorem g181_2 : mC xm181 2 = some (.if_icmp .gt 12, 3) := by decide +kernel
theorem g181_5 : mC xm181 5 = some (.iload_n 0, 1) := by decide +kernel
theorem g181_6 : mC xm181 6 = some (.iload_n 2, 1) := by decide +kernel
theorem g181_7 : mC xm181 7 = some (.if_icmp .gt 7, 3) := by decide +kernel
theorem g181_10 : mC xm181 10 = some (.iconst 1, 1) := by decide +kernel
theorem g181_11 : mC xm181 11 = some (.goto 4, 3) := by decide +kernel
theorem g181_14 : mC xm181 14 = some (.iconst 0, 1) := by decide +kernel
theorem g181_15 : mC xm181 15 = some (.ireturn, 1) := by decide +kernel
theorem g258_0 : mC xm258 0 = some (.iload_n 1, 1) := by decide +kernel
theorem g258_1 : mC xm258 1 = some (.iconst 0, 1) := by decide +kernel
theorem g258_2 : mC xm258 2 = some (.bipush 99, 2) := by decide +kernel
theorem g258_4 : mC xm258 4 = some (.invokestatic 175, 3) := by decide +kernel
theorem g258_7 : mC xm258 7 = some (.ifCond .eq 35, 3) := by decide +kernel
theorem g258_10 : mC xm258 10 = some (.iload_n 2, 1) := by decide +kernel
theorem g258_11 : mC xm258 11 = some (.iconst 0, 1) := by decide +kernel
theorem g258_12 : mC xm258 12 = some (.sipush 899, 3) := by decide +kernel
theorem g258_15 : mC xm258 15 = some (.invokestatic 175, 3) := by decide +kernel
theorem g258_18 : mC xm258 18 = some (.ifCond .eq 24, 3) := by decide +kernel
theorem g258_21 : mC xm258 21 = some (.iload_n 3, 1) := by decide +kernel
theorem g258_22 : mC xm258 22 = some (.iconst 1, 1) := by decide +kernel
theorem g258_23 : mC xm258 23 = some (.bipush 99, 2) := by decide +kernel
theorem g258_25 : mC xm258 25 = some (.invokestatic 175, 3) := by decide +kernel
theorem g258_28 : mC xm258 28 = some (.ifCond .eq 14, 3) := by decide +kernel
theorem g258_31 : mC xm258 31 = some (.iload 4, 2) := by decide +kernel
theorem g258_33 : mC xm258 33 = some (.iconst 0, 1) := by decide +kernel
theorem g258_34 : mC xm258 34 = some (.bipush 99, 2) := by decide +kernel
theorem g258_36 : mC xm258 36 = some (.invokestatic 175, 3) := by decide +kernel
theorem g258_39 : mC xm258 39 = some (.ifCond .ne 6, 3) := by decide +kernel
theorem g258_42 : mC xm258 42 = some (.bipush (-2), 2) := by decide +kernel
theorem g258_44 : mC xm258 44 = some (.ireturn, 1) := by decide +kernel
theorem g258_45 : mC xm258 45 = some (.aload_n 0, 1) := by decide +kernel
theorem g258_46 : mC xm258 46 = some (.getfield 426, 3) := by decide +kernel
theorem g258_49 : mC xm258 49 = some (.bipush 8, 2) := by decide +kernel
theorem g258_51 : mC xm258 51 = some (.if_icmp .ne 6, 3) := by decide +kernel
theorem g258_54 : mC xm258 54 = some (.bipush (-4), 2) := by decide +kernel
theorem g258_56 : mC xm258 56 = some (.ireturn, 1) := by decide +kernel
theorem g258_57 : mC xm258 57 = some (.aload_n 0, 1) := by decide +kernel
theorem g258_58 : mC xm258 58 = some (.getfield 97, 3) := by decide +kernel
theorem g258_61 : mC xm258 61 = some (.aload_n 0, 1) := by decide +kernel
theorem g258_62 : mC xm258 62 = some (.getfield 426, 3) := by decide +kernel
theorem g258_65 : mC xm258 65 = some (.aaload, 1) := by decide +kernel
theorem g258_66 : mC xm258 66 = some (.iconst 0, 1) := by decide +kernel
theorem g258_67 : mC xm258 67 = some (.iload_n 1, 1) := by decide +kernel
theorem g258_68 : mC xm258 68 = some (.iastore, 1) := by decide +kernel
theorem g258_69 : mC xm258 69 = some (.aload_n 0, 1) := by decide +kernel
theorem g258_70 : mC xm258 70 = some (.getfield 97, 3) := by decide +kernel
theorem g258_73 : mC xm258 73 = some (.aload_n 0, 1) := by decide +kernel
theorem g258_74 : mC xm258 74 = some (.getfield 426, 3) := by decide +kernel
theorem g258_77 : mC xm258 77 = some (.aaload, 1) := by decide +kernel
theorem g258_78 : mC xm258 78 = some (.iconst 1, 1) := by decide +kernel
theorem g258_79 : mC xm258 79 = some (.iload_n 2, 1) := by decide +kernel
theorem g258_80 : mC xm258 80 = some (.iastore, 1) := by decide +kernel
theorem g258_81 : mC xm258 81 = some (.aload_n 0, 1) := by decide +kernel
theorem g258_82 : mC xm258 82 = some (.getfield 97, 3) := by decide +kernel
theorem g258_85 : mC xm258 85 = some (.aload_n 0, 1) := by decide +kernel
theorem g258_86 : mC xm258 86 = some (.getfield 426, 3) := by decide +kernel
theorem g258_89 : mC xm258 89 = some (.aaload, 1) := by decide +kernel
theorem g258_90 : mC xm258 90 = some (.iconst 2, 1) := by decide +kernel
theorem g258_91 : mC xm258 91 = some (.iload_n 3, 1) := by decide +kernel
theorem g258_92 : mC xm258 92 = some (.iastore, 1) := by decide +kernel
theorem g258_93 : mC xm258 93 = some (.aload_n 0, 1) := by decide +kernel
theorem g258_94 : mC xm258 94 = some (.getfield 97, 3) := by decide +kernel
theorem g258_97 : mC xm258 97 = some (.aload_n 0, 1) := by decide +kernel
theorem g258_98 : mC xm258 98 = some (.getfield 426, 3) := by decide +kernel
theorem g258_101 : mC xm258 101 = some (.aaload, 1) := by decide +kernel
theorem g258_102 : mC xm258 102 = some (.iconst 3, 1) := by decide +kernel
theorem g258_103 : mC xm258 103 = some (.iload 4, 2) := by decide +kernel
theorem g258_105 : mC xm258 105 = some (.iastore, 1) := by decide +kernel
theorem g258_106 : mC xm258 106 = some (.aload_n 0, 1) := by decide +kernel
theorem g258_107 : mC xm258 107 = some (.dup, 1) := by decide +kernel
theorem g258_108 : mC xm258 108 = some (.getfield 426, 3) := by decide +kernel
theorem g258_111 : mC xm258 111 = some (.dup_x1, 1) := by decide +kernel
theorem g258_112 : mC xm258 112 = some (.iconst 1, 1) := by decide +kernel
theorem g258_113 : mC xm258 113 = some (.iadd, 1) := by decide +kernel
theorem g258_114 : mC xm258 114 = some (.putfield 426, 3) := by decide +kernel
theorem g258_117 : mC xm258 117 = some (.ireturn, 1) := by decide +kernel
theorem g259_0 : mC xm259 0 = some (.iload_n 2, 1) := by decide +kernel
theorem g259_1 : mC xm259 1 = some (.iconst 0, 1) := by decide +kernel
theorem g259_2 : mC xm259 2 = some (.iconst 4, 1) := by decide +kernel
theorem g259_3 : mC xm259 3 = some (.invokestatic 175, 3) := by decide +kernel
theorem g259_6 : mC xm259 6 = some (.ifCond .ne 5, 3) := by decide +kernel
theorem g259_9 : mC xm259 9 = some (.iconst (-1), 1) := by decide +kernel
theorem g259_10 : mC xm259 10 = some (.ireturn, 1) := by decide +kernel
theorem g259_11 : mC xm259 11 = some (.iload_n 1, 1) := by decide +kernel
theorem g259_12 : mC xm259 12 = some (.iconst 1, 1) := by decide +kernel
theorem g259_13 : mC xm259 13 = some (.iconst 3, 1) := by decide +kernel
theorem g259_14 : mC xm259 14 = some (.invokestatic 175, 3) := by decide +kernel
theorem g259_17 : mC xm259 17 = some (.ifCond .ne 6, 3) := by decide +kernel
theorem g259_20 : mC xm259 20 = some (.bipush (-2), 2) := by decide +kernel
theorem g259_22 : mC xm259 22 = some (.ireturn, 1) := by decide +kernel
theorem g259_23 : mC xm259 23 = some (.iload_n 2, 1) := by decide +kernel
theorem g259_24 : mC xm259 24 = some (.iconst 1, 1) := by decide +kernel
theorem g259_25 : mC xm259 25 = some (.iload_n 1, 1) := by decide +kernel
theorem g259_26 : mC xm259 26 = some (.iadd, 1) := by decide +kernel
theorem g259_27 : mC xm259 27 = some (.if_icmp .le 5, 3) := by decide +kernel
theorem g259_30 : mC xm259 30 = some (.iconst (-1), 1) := by decide +kernel
theorem g259_31 : mC xm259 31 = some (.ireturn, 1) := by decide +kernel
theorem g259_32 : mC xm259 32 = some (.aload_n 0, 1) := by decide +kernel
theorem g259_33 : mC xm259 33 = some (.iload_n 1, 1) := by decide +kernel
theorem g259_34 : mC xm259 34 = some (.invokevirtual 435, 3) := by decide +kernel
theorem g259_37 : mC xm259 37 = some (.iconst 0, 1) := by decide +kernel
theorem g259_38 : mC xm259 38 = some (.istore_n 3, 1) := by decide +kernel
theorem g259_39 : mC xm259 39 = some (.iconst 0, 1) := by decide +kernel
theorem g259_40 : mC xm259 40 = some (.istore 4, 2) := by decide +kernel
theorem g259_42 : mC xm259 42 = some (.iconst 0, 1) := by decide +kernel
theorem g259_43 : mC xm259 43 = some (.istore 5, 2) := by decide +kernel
theorem g259_45 : mC xm259 45 = some (.iload 5, 2) := by decide +kernel
theorem g259_47 : mC xm259 47 = some (.iconst 1, 1) := by decide +kernel
theorem g259_48 : mC xm259 48 = some (.aload_n 0, 1) := by decide +kernel
theorem g259_49 : mC xm259 49 = some (.getfield 426, 3) := by decide +kernel
theorem g259_52 : mC xm259 52 = some (.ishl, 1) := by decide +kernel
theorem g259_53 : mC xm259 53 = some (.if_icmp .ge 85, 3) := by decide +kernel
theorem g259_56 : mC xm259 56 = some (.iconst 0, 1) := by decide +kernel
theorem g259_57 : mC xm259 57 = some (.istore 6, 2) := by decide +kernel
theorem g259_59 : mC xm259 59 = some (.iconst 0, 1) := by decide +kernel
theorem g259_60 : mC xm259 60 = some (.istore 7, 2) := by decide +kernel
theorem g259_62 : mC xm259 62 = some (.iload 7, 2) := by decide +kernel
theorem g259_64 : mC xm259 64 = some (.aload_n 0, 1) := by decide +kernel
theorem g259_65 : mC xm259 65 = some (.getfield 426, 3) := by decide +kernel
theorem g259_68 : mC xm259 68 = some (.if_icmp .ge 38, 3) := by decide +kernel
theorem g259_71 : mC xm259 71 = some (.iload 6, 2) := by decide +kernel
theorem g259_73 : mC xm259 73 = some (.iload 5, 2) := by decide +kernel
theorem g259_75 : mC xm259 75 = some (.iload 7, 2) := by decide +kernel
theorem g259_77 : mC xm259 77 = some (.ishr, 1) := by decide +kernel
theorem g259_78 : mC xm259 78 = some (.iconst 1, 1) := by decide +kernel
theorem g259_79 : mC xm259 79 = some (.iand, 1) := by decide +kernel
theorem g259_80 : mC xm259 80 = some (.iconst 1, 1) := by decide +kernel
theorem g259_81 : mC xm259 81 = some (.if_icmp .ne 15, 3) := by decide +kernel
theorem g259_84 : mC xm259 84 = some (.aload_n 0, 1) := by decide +kernel
theorem g259_85 : mC xm259 85 = some (.getfield 97, 3) := by decide +kernel
theorem g259_88 : mC xm259 88 = some (.iload 7, 2) := by decide +kernel
theorem g259_90 : mC xm259 90 = some (.aaload, 1) := by decide +kernel
theorem g259_91 : mC xm259 91 = some (.iconst 3, 1) := by decide +kernel
theorem g259_92 : mC xm259 92 = some (.iaload, 1) := by decide +kernel
theorem g259_93 : mC xm259 93 = some (.goto 4, 3) := by decide +kernel
theorem g259_96 : mC xm259 96 = some (.iconst 0, 1) := by decide +kernel
theorem g259_97 : mC xm259 97 = some (.iadd, 1) := by decide +kernel
theorem g259_98 : mC xm259 98 = some (.istore 6, 2) := by decide +kernel
theorem g259_100 : mC xm259 100 = some (.iinc 7 1, 3) := by decide +kernel
theorem g259_103 : mC xm259 103 = some (.goto (-41), 3) := by decide +kernel
theorem g259_106 : mC xm259 106 = some (.aload_n 0, 1) := by decide +kernel
theorem g259_107 : mC xm259 107 = some (.getfield 168, 3) := by decide +kernel
theorem g259_110 : mC xm259 110 = some (.iload_n 1, 1) := by decide +kernel
theorem g259_111 : mC xm259 111 = some (.aaload, 1) := by decide +kernel
theorem g259_112 : mC xm259 112 = some (.iload 5, 2) := by decide +kernel
theorem g259_114 : mC xm259 114 = some (.baload, 1) := by decide +kernel
theorem g259_115 : mC xm259 115 = some (.ifCond .eq 17, 3) := by decide +kernel
theorem g259_118 : mC xm259 118 = some (.iload 6, 2) := by decide +kernel
theorem g259_120 : mC xm259 120 = some (.iload 4, 2) := by decide +kernel
theorem g259_122 : mC xm259 122 = some (.if_icmp .le 10, 3) := by decide +kernel
theorem g259_125 : mC xm259 125 = some (.iload 6, 2) := by decide +kernel
theorem g259_127 : mC xm259 127 = some (.istore 4, 2) := by decide +kernel
theorem g259_129 : mC xm259 129 = some (.iload 5, 2) := by decide +kernel
theorem g259_131 : mC xm259 131 = some (.istore_n 3, 1) := by decide +kernel
theorem g259_132 : mC xm259 132 = some (.iinc 5 1, 3) := by decide +kernel
theorem g259_135 : mC xm259 135 = some (.goto (-90), 3) := by decide +kernel
theorem g259_138 : mC xm259 138 = some (.iload_n 2, 1) := by decide +kernel
theorem g259_139 : mC xm259 139 = some (.iconst 2, 1) := by decide +kernel
theorem g259_140 : mC xm259 140 = some (.if_icmp .ge 14, 3) := by decide +kernel
theorem g259_143 : mC xm259 143 = some (.iload_n 2, 1) := by decide +kernel
theorem g259_144 : mC xm259 144 = some (.ifCond .ne 8, 3) := by decide +kernel
theorem g259_147 : mC xm259 147 = some (.iload 4, 2) := by decide +kernel
theorem g259_149 : mC xm259 149 = some (.goto 4, 3) := by decide +kernel
theorem g259_152 : mC xm259 152 = some (.iload_n 3, 1) := by decide +kernel
theorem g259_153 : mC xm259 153 = some (.ireturn, 1) := by decide +kernel
theorem g259_154 : mC xm259 154 = some (.iload_n 3, 1) := by decide +kernel
theorem g259_155 : mC xm259 155 = some (.istore 5, 2) := by decide +kernel
theorem g259_157 : mC xm259 157 = some (.iconst 0, 1) := by decide +kernel
theorem g259_158 : mC xm259 158 = some (.istore 6, 2) := by decide +kernel
theorem g259_160 : mC xm259 160 = some (.iload 5, 2) := by decide +kernel
theorem g259_162 : mC xm259 162 = some (.istore 7, 2) := by decide +kernel
theorem g259_164 : mC xm259 164 = some (.iload 7, 2) := by decide +kernel
theorem g259_166 : mC xm259 166 = some (.iload 5, 2) := by decide +kernel
theorem g259_168 : mC xm259 168 = some (.iconst (-1), 1) := by decide +kernel
theorem g259_169 : mC xm259 169 = some (.ixor, 1) := by decide +kernel
theorem g259_170 : mC xm259 170 = some (.iand, 1) := by decide +kernel
theorem g259_171 : mC xm259 171 = some (.ifCond .ne 37, 3) := by decide +kernel
theorem g259_174 : mC xm259 174 = some (.aload_n 0, 1) := by decide +kernel
theorem g259_175 : mC xm259 175 = some (.getfield 168, 3) := by decide +kernel
theorem g259_178 : mC xm259 178 = some (.iconst 1, 1) := by decide +kernel
theorem g259_179 : mC xm259 179 = some (.aaload, 1) := by decide +kernel
theorem g259_180 : mC xm259 180 = some (.iload 7, 2) := by decide +kernel
theorem g259_182 : mC xm259 182 = some (.baload, 1) := by decide +kernel
theorem g259_183 : mC xm259 183 = some (.ifCond .eq 25, 3) := by decide +kernel
theorem g259_186 : mC xm259 186 = some (.aload_n 0, 1) := by decide +kernel
theorem g259_187 : mC xm259 187 = some (.getfield 168, 3) := by decide +kernel
theorem g259_190 : mC xm259 190 = some (.iload_n 1, 1) := by decide +kernel
theorem g259_191 : mC xm259 191 = some (.iconst 1, 1) := by decide +kernel
theorem g259_192 : mC xm259 192 = some (.isub, 1) := by decide +kernel
theorem g259_193 : mC xm259 193 = some (.iload 6, 2) := by decide +kernel
theorem g259_195 : mC xm259 195 = some (.isub, 1) := by decide +kernel
theorem g259_196 : mC xm259 196 = some (.aaload, 1) := by decide +kernel
theorem g259_197 : mC xm259 197 = some (.iload 5, 2) := by decide +kernel
theorem g259_199 : mC xm259 199 = some (.iload 7, 2) := by decide +kernel
theorem g259_201 : mC xm259 201 = some (.iconst (-1), 1) := by decide +kernel
theorem g259_202 : mC xm259 202 = some (.ixor, 1) := by decide +kernel
theorem g259_203 : mC xm259 203 = some (.iand, 1) := by decide +kernel
theorem g259_204 : mC xm259 204 = some (.baload, 1) := by decide +kernel
theorem g259_205 : mC xm259 205 = some (.ifCond .ne 9, 3) := by decide +kernel
theorem g259_208 : mC xm259 208 = some (.iinc 7 (-1), 3) := by decide +kernel
theorem g259_211 : mC xm259 211 = some (.goto (-47), 3) := by decide +kernel
theorem g259_214 : mC xm259 214 = some (.iload 6, 2) := by decide +kernel
theorem g259_216 : mC xm259 216 = some (.iload_n 2, 1) := by decide +kernel
theorem g259_217 : mC xm259 217 = some (.iconst 2, 1) := by decide +kernel
theorem g259_218 : mC xm259 218 = some (.isub, 1) := by decide +kernel
theorem g259_219 : mC xm259 219 = some (.if_icmp .ne 6, 3) := by decide +kernel
theorem g259_222 : mC xm259 222 = some (.iload 7, 2) := by decide +kernel
theorem g259_224 : mC xm259 224 = some (.ireturn, 1) := by decide +kernel
theorem g259_225 : mC xm259 225 = some (.iload 5, 2) := by decide +kernel
theorem g259_227 : mC xm259 227 = some (.iload 7, 2) := by decide +kernel
theorem g259_229 : mC xm259 229 = some (.iconst (-1), 1) := by decide +kernel
theorem g259_230 : mC xm259 230 = some (.ixor, 1) := by decide +kernel
theorem g259_231 : mC xm259 231 = some (.iand, 1) := by decide +kernel
theorem g259_232 : mC xm259 232 = some (.istore 5, 2) := by decide +kernel
theorem g259_234 : mC xm259 234 = some (.iinc 6 1, 3) := by decide +kernel
theorem g259_237 : mC xm259 237 = some (.goto (-77), 3) := by decide +kernel
theorem g260_0 : mC xm260 0 = some (.iconst 0, 1) := by decide +kernel
theorem g260_1 : mC xm260 1 = some (.istore_n 2, 1) := by decide +kernel
theorem g260_2 : mC xm260 2 = some (.iload_n 2, 1) := by decide +kernel
theorem g260_3 : mC xm260 3 = some (.iconst 1, 1) := by decide +kernel
theorem g260_4 : mC xm260 4 = some (.aload_n 0, 1) := by decide +kernel
theorem g260_5 : mC xm260 5 = some (.getfield 426, 3) := by decide +kernel
theorem g260_8 : mC xm260 8 = some (.ishl, 1) := by decide +kernel
theorem g260_9 : mC xm260 9 = some (.if_icmp .ge 39, 3) := by decide +kernel
theorem g260_12 : mC xm260 12 = some (.aload_n 0, 1) := by decide +kernel
theorem g260_13 : mC xm260 13 = some (.getfield 168, 3) := by decide +kernel
theorem g260_16 : mC xm260 16 = some (.iconst 0, 1) := by decide +kernel
theorem g260_17 : mC xm260 17 = some (.aaload, 1) := by decide +kernel
theorem g260_18 : mC xm260 18 = some (.iload_n 2, 1) := by decide +kernel
theorem g260_19 : mC xm260 19 = some (.iload_n 2, 1) := by decide +kernel
theorem g260_20 : mC xm260 20 = some (.ifCond .ne 7, 3) := by decide +kernel
theorem g260_23 : mC xm260 23 = some (.iconst 1, 1) := by decide +kernel
theorem g260_24 : mC xm260 24 = some (.goto 4, 3) := by decide +kernel
theorem g260_27 : mC xm260 27 = some (.iconst 0, 1) := by decide +kernel
theorem g260_28 : mC xm260 28 = some (.bastore, 1) := by decide +kernel
theorem g260_29 : mC xm260 29 = some (.aload_n 0, 1) := by decide +kernel
theorem g260_30 : mC xm260 30 = some (.getfield 168, 3) := by decide +kernel
theorem g260_33 : mC xm260 33 = some (.iconst 1, 1) := by decide +kernel
theorem g260_34 : mC xm260 34 = some (.aaload, 1) := by decide +kernel
theorem g260_35 : mC xm260 35 = some (.iload_n 2, 1) := by decide +kernel
theorem g260_36 : mC xm260 36 = some (.aload_n 0, 1) := by decide +kernel
theorem g260_37 : mC xm260 37 = some (.iload_n 2, 1) := by decide +kernel
theorem g260_38 : mC xm260 38 = some (.invokevirtual 432, 3) := by decide +kernel
theorem g260_41 : mC xm260 41 = some (.bastore, 1) := by decide +kernel
theorem g260_42 : mC xm260 42 = some (.iinc 2 1, 3) := by decide +kernel
theorem g260_45 : mC xm260 45 = some (.goto (-43), 3) := by decide +kernel
theorem g260_48 : mC xm260 48 = some (.iconst 2, 1) := by decide +kernel
theorem g260_49 : mC xm260 49 = some (.istore_n 2, 1) := by decide +kernel
theorem g260_50 : mC xm260 50 = some (.iload_n 2, 1) := by decide +kernel
theorem g260_51 : mC xm260 51 = some (.iload_n 1, 1) := by decide +kernel
theorem g260_52 : mC xm260 52 = some (.if_icmp .gt 113, 3) := by decide +kernel
theorem g260_55 : mC xm260 55 = some (.iconst 0, 1) := by decide +kernel
theorem g260_56 : mC xm260 56 = some (.istore_n 3, 1) := by decide +kernel
theorem g260_57 : mC xm260 57 = some (.iload_n 3, 1) := by decide +kernel
theorem g260_58 : mC xm260 58 = some (.iconst 1, 1) := by decide +kernel
theorem g260_59 : mC xm260 59 = some (.aload_n 0, 1) := by decide +kernel
theorem g260_60 : mC xm260 60 = some (.getfield 426, 3) := by decide +kernel
theorem g260_63 : mC xm260 63 = some (.ishl, 1) := by decide +kernel
theorem g260_64 : mC xm260 64 = some (.if_icmp .ge 95, 3) := by decide +kernel
theorem g260_67 : mC xm260 67 = some (.aload_n 0, 1) := by decide +kernel
theorem g260_68 : mC xm260 68 = some (.getfield 168, 3) := by decide +kernel
theorem g260_71 : mC xm260 71 = some (.iload_n 2, 1) := by decide +kernel
theorem g260_72 : mC xm260 72 = some (.aaload, 1) := by decide +kernel
theorem g260_73 : mC xm260 73 = some (.iload_n 3, 1) := by decide +kernel
theorem g260_74 : mC xm260 74 = some (.iconst 0, 1) := by decide +kernel
theorem g260_75 : mC xm260 75 = some (.bastore, 1) := by decide +kernel
theorem g260_76 : mC xm260 76 = some (.iload_n 3, 1) := by decide +kernel
theorem g260_77 : mC xm260 77 = some (.istore 4, 2) := by decide +kernel
theorem g260_79 : mC xm260 79 = some (.iload 4, 2) := by decide +kernel
theorem g260_81 : mC xm260 81 = some (.ifCond .lt 72, 3) := by decide +kernel
theorem g260_84 : mC xm260 84 = some (.aload_n 0, 1) := by decide +kernel
theorem g260_85 : mC xm260 85 = some (.getfield 168, 3) := by decide +kernel
theorem g260_88 : mC xm260 88 = some (.iload_n 2, 1) := by decide +kernel
theorem g260_89 : mC xm260 89 = some (.aaload, 1) := by decide +kernel
theorem g260_90 : mC xm260 90 = some (.iload_n 3, 1) := by decide +kernel
theorem g260_91 : mC xm260 91 = some (.baload, 1) := by decide +kernel
theorem g260_92 : mC xm260 92 = some (.ifCond .ne 61, 3) := by decide +kernel
theorem g260_95 : mC xm260 95 = some (.aload_n 0, 1) := by decide +kernel
theorem g260_96 : mC xm260 96 = some (.getfield 168, 3) := by decide +kernel
theorem g260_99 : mC xm260 99 = some (.iload_n 2, 1) := by decide +kernel
theorem g260_100 : mC xm260 100 = some (.aaload, 1) := by decide +kernel
theorem g260_101 : mC xm260 101 = some (.iload_n 3, 1) := by decide +kernel
theorem g260_102 : mC xm260 102 = some (.iload 4, 2) := by decide +kernel
theorem g260_104 : mC xm260 104 = some (.iload_n 3, 1) := by decide +kernel
theorem g260_105 : mC xm260 105 = some (.iconst (-1), 1) := by decide +kernel
theorem g260_106 : mC xm260 106 = some (.ixor, 1) := by decide +kernel
theorem g260_107 : mC xm260 107 = some (.iand, 1) := by decide +kernel
theorem g260_108 : mC xm260 108 = some (.ifCond .ne 37, 3) := by decide +kernel
theorem g260_111 : mC xm260 111 = some (.aload_n 0, 1) := by decide +kernel
theorem g260_112 : mC xm260 112 = some (.getfield 168, 3) := by decide +kernel
theorem g260_115 : mC xm260 115 = some (.iconst 1, 1) := by decide +kernel
theorem g260_116 : mC xm260 116 = some (.aaload, 1) := by decide +kernel
theorem g260_117 : mC xm260 117 = some (.iload 4, 2) := by decide +kernel
theorem g260_119 : mC xm260 119 = some (.baload, 1) := by decide +kernel
theorem g260_120 : mC xm260 120 = some (.ifCond .eq 25, 3) := by decide +kernel
theorem g260_123 : mC xm260 123 = some (.aload_n 0, 1) := by decide +kernel
theorem g260_124 : mC xm260 124 = some (.getfield 168, 3) := by decide +kernel
theorem g260_127 : mC xm260 127 = some (.iload_n 2, 1) := by decide +kernel
theorem g260_128 : mC xm260 128 = some (.iconst 1, 1) := by decide +kernel
theorem g260_129 : mC xm260 129 = some (.isub, 1) := by decide +kernel
theorem g260_130 : mC xm260 130 = some (.aaload, 1) := by decide +kernel
theorem g260_131 : mC xm260 131 = some (.iload_n 3, 1) := by decide +kernel
theorem g260_132 : mC xm260 132 = some (.iload 4, 2) := by decide +kernel
theorem g260_134 : mC xm260 134 = some (.iconst (-1), 1) := by decide +kernel
theorem g260_135 : mC xm260 135 = some (.ixor, 1) := by decide +kernel
theorem g260_136 : mC xm260 136 = some (.iand, 1) := by decide +kernel
theorem g260_137 : mC xm260 137 = some (.baload, 1) := by decide +kernel
theorem g260_138 : mC xm260 138 = some (.ifCond .eq 7, 3) := by decide +kernel
theorem g260_141 : mC xm260 141 = some (.iconst 1, 1) := by decide +kernel
theorem g260_142 : mC xm260 142 = some (.goto 4, 3) := by decide +kernel
theorem g260_145 : mC xm260 145 = some (.iconst 0, 1) := by decide +kernel
theorem g260_146 : mC xm260 146 = some (.bastore, 1) := by decide +kernel
theorem g260_147 : mC xm260 147 = some (.iinc 4 (-1), 3) := by decide +kernel
theorem g260_150 : mC xm260 150 = some (.goto (-71), 3) := by decide +kernel
theorem g260_153 : mC xm260 153 = some (.iinc 3 1, 3) := by decide +kernel
theorem g260_156 : mC xm260 156 = some (.goto (-99), 3) := by decide +kernel
theorem g260_159 : mC xm260 159 = some (.iinc 2 1, 3) := by decide +kernel
theorem g260_162 : mC xm260 162 = some (.goto (-112), 3) := by decide +kernel
theorem g260_165 : mC xm260 165 = some (.return_, 1) := by decide +kernel
theorem g261_0 : mC xm261 0 = some (.iconst 0, 1) := by decide +kernel
theorem g261_1 : mC xm261 1 = some (.istore_n 2, 1) := by decide +kernel
theorem g261_2 : mC xm261 2 = some (.iconst 0, 1) := by decide +kernel
theorem g261_3 : mC xm261 3 = some (.istore_n 3, 1) := by decide +kernel
theorem g261_4 : mC xm261 4 = some (.iload_n 1, 1) := by decide +kernel
theorem g261_5 : mC xm261 5 = some (.istore 4, 2) := by decide +kernel
theorem g261_7 : mC xm261 7 = some (.iload 4, 2) := by decide +kernel
theorem g261_9 : mC xm261 9 = some (.ifCond .eq 156, 3) := by decide +kernel
theorem g261_12 : mC xm261 12 = some (.iconst (-1), 1) := by decide +kernel
theorem g261_13 : mC xm261 13 = some (.istore 5, 2) := by decide +kernel
theorem g261_15 : mC xm261 15 = some (.iconst 0, 1) := by decide +kernel
theorem g261_16 : mC xm261 16 = some (.istore 6, 2) := by decide +kernel
theorem g261_18 : mC xm261 18 = some (.iload 6, 2) := by decide +kernel
theorem g261_20 : mC xm261 20 = some (.aload_n 0, 1) := by decide +kernel
theorem g261_21 : mC xm261 21 = some (.getfield 426, 3) := by decide +kernel
theorem g261_24 : mC xm261 24 = some (.if_icmp .ge 67, 3) := by decide +kernel
theorem g261_27 : mC xm261 27 = some (.iload 4, 2) := by decide +kernel
theorem g261_29 : mC xm261 29 = some (.iload 6, 2) := by decide +kernel
theorem g261_31 : mC xm261 31 = some (.ishr, 1) := by decide +kernel
theorem g261_32 : mC xm261 32 = some (.iconst 1, 1) := by decide +kernel
theorem g261_33 : mC xm261 33 = some (.iand, 1) := by decide +kernel
theorem g261_34 : mC xm261 34 = some (.iconst 1, 1) := by decide +kernel
theorem g261_35 : mC xm261 35 = some (.if_icmp .ne 7, 3) := by decide +kernel
theorem g261_38 : mC xm261 38 = some (.iconst 1, 1) := by decide +kernel
theorem g261_39 : mC xm261 39 = some (.goto 4, 3) := by decide +kernel
theorem g261_42 : mC xm261 42 = some (.iconst 0, 1) := by decide +kernel
theorem g261_43 : mC xm261 43 = some (.istore 7, 2) := by decide +kernel
theorem g261_45 : mC xm261 45 = some (.iload 7, 2) := by decide +kernel
theorem g261_47 : mC xm261 47 = some (.ifCond .eq 34, 3) := by decide +kernel
theorem g261_50 : mC xm261 50 = some (.iload 5, 2) := by decide +kernel
theorem g261_52 : mC xm261 52 = some (.ifCond .lt 24, 3) := by decide +kernel
theorem g261_55 : mC xm261 55 = some (.aload_n 0, 1) := by decide +kernel
theorem g261_56 : mC xm261 56 = some (.getfield 97, 3) := by decide +kernel
theorem g261_59 : mC xm261 59 = some (.iload 6, 2) := by decide +kernel
theorem g261_61 : mC xm261 61 = some (.aaload, 1) := by decide +kernel
theorem g261_62 : mC xm261 62 = some (.iconst 1, 1) := by decide +kernel
theorem g261_63 : mC xm261 63 = some (.iaload, 1) := by decide +kernel
theorem g261_64 : mC xm261 64 = some (.aload_n 0, 1) := by decide +kernel
theorem g261_65 : mC xm261 65 = some (.getfield 97, 3) := by decide +kernel
theorem g261_68 : mC xm261 68 = some (.iload 5, 2) := by decide +kernel
theorem g261_70 : mC xm261 70 = some (.aaload, 1) := by decide +kernel
theorem g261_71 : mC xm261 71 = some (.iconst 1, 1) := by decide +kernel
theorem g261_72 : mC xm261 72 = some (.iaload, 1) := by decide +kernel
theorem g261_73 : mC xm261 73 = some (.if_icmp .ge 8, 3) := by decide +kernel
theorem g261_76 : mC xm261 76 = some (.iload 6, 2) := by decide +kernel
theorem g261_78 : mC xm261 78 = some (.goto 5, 3) := by decide +kernel
theorem g261_81 : mC xm261 81 = some (.iload 5, 2) := by decide +kernel
theorem g261_83 : mC xm261 83 = some (.istore 5, 2) := by decide +kernel
theorem g261_85 : mC xm261 85 = some (.iinc 6 1, 3) := by decide +kernel
theorem g261_88 : mC xm261 88 = some (.goto (-70), 3) := by decide +kernel
theorem g261_91 : mC xm261 91 = some (.iload_n 3, 1) := by decide +kernel
theorem g261_92 : mC xm261 92 = some (.aload_n 0, 1) := by decide +kernel
theorem g261_93 : mC xm261 93 = some (.getfield 97, 3) := by decide +kernel
theorem g261_96 : mC xm261 96 = some (.iload 5, 2) := by decide +kernel
theorem g261_98 : mC xm261 98 = some (.aaload, 1) := by decide +kernel
theorem g261_99 : mC xm261 99 = some (.iconst 0, 1) := by decide +kernel
theorem g261_100 : mC xm261 100 = some (.iaload, 1) := by decide +kernel
theorem g261_101 : mC xm261 101 = some (.iload_n 2, 1) := by decide +kernel
theorem g261_102 : mC xm261 102 = some (.isub, 1) := by decide +kernel
theorem g261_103 : mC xm261 103 = some (.invokestatic 429, 3) := by decide +kernel
theorem g261_106 : mC xm261 106 = some (.iadd, 1) := by decide +kernel
theorem g261_107 : mC xm261 107 = some (.aload_n 0, 1) := by decide +kernel
theorem g261_108 : mC xm261 108 = some (.getfield 97, 3) := by decide +kernel
theorem g261_111 : mC xm261 111 = some (.iload 5, 2) := by decide +kernel
theorem g261_113 : mC xm261 113 = some (.aaload, 1) := by decide +kernel
theorem g261_114 : mC xm261 114 = some (.iconst 1, 1) := by decide +kernel
theorem g261_115 : mC xm261 115 = some (.iaload, 1) := by decide +kernel
theorem g261_116 : mC xm261 116 = some (.if_icmp .le 5, 3) := by decide +kernel
theorem g261_119 : mC xm261 119 = some (.iconst 0, 1) := by decide +kernel
theorem g261_120 : mC xm261 120 = some (.ireturn, 1) := by decide +kernel
theorem g261_121 : mC xm261 121 = some (.aload_n 0, 1) := by decide +kernel
theorem g261_122 : mC xm261 122 = some (.getfield 97, 3) := by decide +kernel
theorem g261_125 : mC xm261 125 = some (.iload 5, 2) := by decide +kernel
theorem g261_127 : mC xm261 127 = some (.aaload, 1) := by decide +kernel
theorem g261_128 : mC xm261 128 = some (.iconst 0, 1) := by decide +kernel
theorem g261_129 : mC xm261 129 = some (.iaload, 1) := by decide +kernel
theorem g261_130 : mC xm261 130 = some (.istore_n 2, 1) := by decide +kernel
theorem g261_131 : mC xm261 131 = some (.aload_n 0, 1) := by decide +kernel
theorem g261_132 : mC xm261 132 = some (.getfield 97, 3) := by decide +kernel
theorem g261_135 : mC xm261 135 = some (.iload 5, 2) := by decide +kernel
theorem g261_137 : mC xm261 137 = some (.aaload, 1) := by decide +kernel
theorem g261_138 : mC xm261 138 = some (.iconst 1, 1) := by decide +kernel
theorem g261_139 : mC xm261 139 = some (.iaload, 1) := by decide +kernel
theorem g261_140 : mC xm261 140 = some (.aload_n 0, 1) := by decide +kernel
theorem g261_141 : mC xm261 141 = some (.getfield 97, 3) := by decide +kernel
theorem g261_144 : mC xm261 144 = some (.iload 5, 2) := by decide +kernel
theorem g261_146 : mC xm261 146 = some (.aaload, 1) := by decide +kernel
theorem g261_147 : mC xm261 147 = some (.iconst 2, 1) := by decide +kernel
theorem g261_148 : mC xm261 148 = some (.iaload, 1) := by decide +kernel
theorem g261_149 : mC xm261 149 = some (.iadd, 1) := by decide +kernel
theorem g261_150 : mC xm261 150 = some (.istore_n 3, 1) := by decide +kernel
theorem g261_151 : mC xm261 151 = some (.iload 4, 2) := by decide +kernel
theorem g261_153 : mC xm261 153 = some (.iconst 1, 1) := by decide +kernel
theorem g261_154 : mC xm261 154 = some (.iload 5, 2) := by decide +kernel
theorem g261_156 : mC xm261 156 = some (.ishl, 1) := by decide +kernel
theorem g261_157 : mC xm261 157 = some (.iconst (-1), 1) := by decide +kernel
theorem g261_158 : mC xm261 158 = some (.ixor, 1) := by decide +kernel
theorem g261_159 : mC xm261 159 = some (.iand, 1) := by decide +kernel
theorem g261_160 : mC xm261 160 = some (.istore 4, 2) := by decide +kernel
theorem g261_162 : mC xm261 162 = some (.goto (-155), 3) := by decide +kernel
theorem g261_165 : mC xm261 165 = some (.iconst 1, 1) := by decide +kernel
theorem g261_166 : mC xm261 166 = some (.ireturn, 1) := by decide +kernel
end XH35
