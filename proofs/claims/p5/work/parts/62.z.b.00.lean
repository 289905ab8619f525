/-! p5: the instructions on the ways. -/
noncomputable section XH5
set_option maxRecDepth 1000000 in
theorem g_q35 : tMth x_tb 35 = some xm35 := rfl
set_option maxRecDepth 1000000 in
theorem g_q42 : tMth x_tb 42 = some xm42 := rfl
set_option maxRecDepth 1000000 in
theorem g_q43 : tMth x_tb 43 = some xm43 := rfl
set_option maxRecDepth 1000000 in
theorem g_q44 : tMth x_tb 44 = some xm44 := rfl
set_option maxRecDepth 1000000 in
theorem g_q45 : tMth x_tb 45 = some xm45 := rfl
set_option maxRecDepth 1000000 in
theorem g_q46 : tMth x_tb 46 = some xm46 := rfl
set_option maxRecDepth 1000000 in
theorem g_q47 : tMth x_tb 47 = some xm47 := rfl
set_option maxRecDepth 1000000 in
theorem g_q48 : tMth x_tb 48 = some xm48 := rfl
set_option maxRecDepth 1000000 in
theorem g_q49 : tMth x_tb 49 = some xm49 := rfl
set_option maxRecDepth 1000000 in
theorem g_q50 : tMth x_tb 50 = some xm50 := rfl
set_option maxRecDepth 1000000 in
theorem g_q51 : tMth x_tb 51 = some xm51 := rfl
set_option maxRecDepth 1000000 in
theorem g_q181 : tMth x_tb 181 = some xm181 := rfl
set_option maxRecDepth 1000000 in
theorem g_q201 : tMth x_tb 201 = some xm201 := rfl
set_option maxRecDepth 1000000 in
theorem g_q225 : tMth x_tb 225 = some xm225 := rfl
set_option maxRecDepth 1000000 in
theorem g_q226 : tMth x_tb 226 = some xm226 := rfl
set_option maxRecDepth 1000000 in
theorem g_q227 : tMth x_tb 227 = some xm227 := rfl
set_option maxRecDepth 1000000 in
theorem g_q228 : tMth x_tb 228 = some xm228 := rfl
set_option maxRecDepth 1000000 in
theorem g_q229 : tMth x_tb 229 = some xm229 := rfl
theorem g35_0 : mC xm35 0 = some (.iload_n 0, 1) := by decide +kernel
theorem g35_1 : mC xm35 1 = some (.iload_n 1, 1) := by decide +kernel
theorem g35_2 : mC xm35 2 = some (.if_icmp .lt 12, 3) := by decide +kernel
theorem g35_5 : mC xm35 5 = some (.iload_n 0, 1) := by decide +kernel
theorem g35_6 : mC xm35 6 = some (.iload_n 2, 1) := by decide +kernel
theorem g35_7 : mC xm35 7 = some (.if_icmp .gt 7, 3) := by decide +kernel
theorem g35_10 : mC xm35 10 = some (.iconst 1, 1) := by decide +kernel
theorem g35_11 : mC xm35 11 = some (.goto 4, 3) := by decide +kernel
theorem g35_14 : mC xm35 14 = some (.iconst 0, 1) := by decide +kernel
theorem g35_15 : mC xm35 15 = some (.ireturn, 1) := by decide +kernel
theorem g42_0 : mC xm42 0 = some (.iload_n 1, 1) := by decide +kernel
theorem g42_1 : mC xm42 1 = some (.ifCond .lt 20, 3) := by decide +kernel
theorem g42_4 : mC xm42 4 = some (.iload_n 1, 1) := by decide +kernel
theorem g42_5 : mC xm42 5 = some (.aload_n 0, 1) := by decide +kernel
theorem g42_6 : mC xm42 6 = some (.getfield 107, 3) := by decide +kernel
theorem g42_9 : mC xm42 9 = some (.if_icmp .ge 12, 3) := by decide +kernel
theorem g42_12 : mC xm42 12 = some (.aload_n 0, 1) := by decide +kernel
theorem g42_13 : mC xm42 13 = some (.getfield 25, 3) := by decide +kernel
theorem g42_16 : mC xm42 16 = some (.iload_n 1, 1) := by decide +kernel
theorem g42_17 : mC xm42 17 = some (.aaload, 1) := by decide +kernel
theorem g42_18 : mC xm42 18 = some (.goto 4, 3) := by decide +kernel
theorem g42_21 : mC xm42 21 = some (.aconst_null, 1) := by decide +kernel
theorem g42_22 : mC xm42 22 = some (.areturn, 1) := by decide +kernel
theorem g43_0 : mC xm43 0 = some (.aload_n 0, 1) := by decide +kernel
theorem g43_1 : mC xm43 1 = some (.iload_n 1, 1) := by decide +kernel
theorem g43_2 : mC xm43 2 = some (.invokevirtual 117, 3) := by decide +kernel
theorem g43_5 : mC xm43 5 = some (.astore 4, 2) := by decide +kernel
theorem g43_7 : mC xm43 7 = some (.aload 4, 2) := by decide +kernel
theorem g43_9 : mC xm43 9 = some (.ifnull 10, 3) := by decide +kernel
theorem g43_12 : mC xm43 12 = some (.iload_n 2, 1) := by decide +kernel
theorem g43_13 : mC xm43 13 = some (.invokestatic 163, 3) := by decide +kernel
theorem g43_16 : mC xm43 16 = some (.ifCond .ne 6, 3) := by decide +kernel
theorem g43_19 : mC xm43 19 = some (.bipush (-5), 2) := by decide +kernel
theorem g43_21 : mC xm43 21 = some (.ireturn, 1) := by decide +kernel
theorem g43_22 : mC xm43 22 = some (.iload_n 3, 1) := by decide +kernel
theorem g43_23 : mC xm43 23 = some (.tableswitch (55) (0) (2) #[(25), (36), (47)], 25) := by decide +kernel
theorem g43_48 : mC xm43 48 = some (.aload 4, 2) := by decide +kernel
theorem g43_50 : mC xm43 50 = some (.getfield 127, 3) := by decide +kernel
theorem g43_53 : mC xm43 53 = some (.getfield 167, 3) := by decide +kernel
theorem g43_56 : mC xm43 56 = some (.iload_n 2, 1) := by decide +kernel
theorem g43_57 : mC xm43 57 = some (.iaload, 1) := by decide +kernel
theorem g43_58 : mC xm43 58 = some (.ireturn, 1) := by decide +kernel
theorem g43_59 : mC xm43 59 = some (.aload 4, 2) := by decide +kernel
theorem g43_61 : mC xm43 61 = some (.getfield 127, 3) := by decide +kernel
theorem g43_64 : mC xm43 64 = some (.getfield 171, 3) := by decide +kernel
theorem g43_67 : mC xm43 67 = some (.iload_n 2, 1) := by decide +kernel
theorem g43_68 : mC xm43 68 = some (.iaload, 1) := by decide +kernel
theorem g43_69 : mC xm43 69 = some (.ireturn, 1) := by decide +kernel
theorem g43_70 : mC xm43 70 = some (.aload_n 0, 1) := by decide +kernel
theorem g43_71 : mC xm43 71 = some (.aload 4, 2) := by decide +kernel
theorem g43_73 : mC xm43 73 = some (.iload_n 2, 1) := by decide +kernel
theorem g43_74 : mC xm43 74 = some (.invokevirtual 174, 3) := by decide +kernel
theorem g43_77 : mC xm43 77 = some (.ireturn, 1) := by decide +kernel
theorem g43_78 : mC xm43 78 = some (.bipush (-5), 2) := by decide +kernel
theorem g43_80 : mC xm43 80 = some (.ireturn, 1) := by decide +kernel
theorem g44_0 : mC xm44 0 = some (.iload_n 0, 1) := by decide +kernel
theorem g44_1 : mC xm44 1 = some (.iconst 0, 1) := by decide +kernel
theorem g44_2 : mC xm44 2 = some (.iconst 5, 1) := by decide +kernel
theorem g44_3 : mC xm44 3 = some (.invokestatic 178, 3) := by decide +kernel
theorem g44_6 : mC xm44 6 = some (.ireturn, 1) := by decide +kernel
theorem g45_0 : mC xm45 0 = some (.aload_n 0, 1) := by decide +kernel
theorem g45_1 : mC xm45 1 = some (.invokevirtual 469, 3) := by decide +kernel
theorem g45_4 : mC xm45 4 = some (.aload_n 1, 1) := by decide +kernel
theorem g45_5 : mC xm45 5 = some (.getfield 472, 3) := by decide +kernel
theorem g45_8 : mC xm45 8 = some (.iload_n 2, 1) := by decide +kernel
theorem g45_9 : mC xm45 9 = some (.invokestatic 247, 3) := by decide +kernel
theorem g45_12 : mC xm45 12 = some (.ifCond .eq 5, 3) := by decide +kernel
theorem g45_15 : mC xm45 15 = some (.iconst 1, 1) := by decide +kernel
theorem g45_16 : mC xm45 16 = some (.ireturn, 1) := by decide +kernel
theorem g45_17 : mC xm45 17 = some (.aload_n 1, 1) := by decide +kernel
theorem g45_18 : mC xm45 18 = some (.getfield 133, 3) := by decide +kernel
theorem g45_21 : mC xm45 21 = some (.aload_n 1, 1) := by decide +kernel
theorem g45_22 : mC xm45 22 = some (.getfield 472, 3) := by decide +kernel
theorem g45_25 : mC xm45 25 = some (.invokevirtual 475, 3) := by decide +kernel
theorem g45_28 : mC xm45 28 = some (.iload_n 2, 1) := by decide +kernel
theorem g45_29 : mC xm45 29 = some (.invokestatic 247, 3) := by decide +kernel
theorem g45_32 : mC xm45 32 = some (.ifCond .eq 7, 3) := by decide +kernel
theorem g45_35 : mC xm45 35 = some (.iconst 2, 1) := by decide +kernel
theorem g45_36 : mC xm45 36 = some (.goto 4, 3) := by decide +kernel
theorem g45_39 : mC xm45 39 = some (.iconst 0, 1) := by decide +kernel
theorem g45_40 : mC xm45 40 = some (.ireturn, 1) := by decide +kernel
theorem g46_0 : mC xm46 0 = some (.iconst 0, 1) := by decide +kernel
theorem g46_1 : mC xm46 1 = some (.istore_n 1, 1) := by decide +kernel
theorem g46_2 : mC xm46 2 = some (.iload_n 1, 1) := by decide +kernel
theorem g46_3 : mC xm46 3 = some (.aload_n 0, 1) := by decide +kernel
theorem g46_4 : mC xm46 4 = some (.getfield 107, 3) := by decide +kernel
theorem g46_7 : mC xm46 7 = some (.if_icmp .ge 19, 3) := by decide +kernel
theorem g46_10 : mC xm46 10 = some (.aload_n 0, 1) := by decide +kernel
theorem g46_11 : mC xm46 11 = some (.getfield 25, 3) := by decide +kernel
theorem g46_14 : mC xm46 14 = some (.iload_n 1, 1) := by decide +kernel
theorem g46_15 : mC xm46 15 = some (.aaload, 1) := by decide +kernel
theorem g46_16 : mC xm46 16 = some (.iconst 0, 1) := by decide +kernel
theorem g46_17 : mC xm46 17 = some (.putfield 472, 3) := by decide +kernel
theorem g46_20 : mC xm46 20 = some (.iinc 1 1, 3) := by decide +kernel
theorem g46_23 : mC xm46 23 = some (.goto (-21), 3) := by decide +kernel
theorem g46_26 : mC xm46 26 = some (.iconst 1, 1) := by decide +kernel
theorem g46_27 : mC xm46 27 = some (.istore_n 1, 1) := by decide +kernel
theorem g46_28 : mC xm46 28 = some (.iconst 0, 1) := by decide +kernel
theorem g46_29 : mC xm46 29 = some (.istore_n 2, 1) := by decide +kernel
theorem g46_30 : mC xm46 30 = some (.iload_n 1, 1) := by decide +kernel
theorem g46_31 : mC xm46 31 = some (.ifCond .eq 124, 3) := by decide +kernel
theorem g46_34 : mC xm46 34 = some (.iload_n 2, 1) := by decide +kernel
theorem g46_35 : mC xm46 35 = some (.bipush 72, 2) := by decide +kernel
theorem g46_37 : mC xm46 37 = some (.if_icmp .gt 118, 3) := by decide +kernel
theorem g46_40 : mC xm46 40 = some (.iconst 0, 1) := by decide +kernel
theorem g46_41 : mC xm46 41 = some (.istore_n 1, 1) := by decide +kernel
theorem g46_42 : mC xm46 42 = some (.iconst 0, 1) := by decide +kernel
theorem g46_43 : mC xm46 43 = some (.istore_n 3, 1) := by decide +kernel
theorem g46_44 : mC xm46 44 = some (.iload_n 3, 1) := by decide +kernel
theorem g46_45 : mC xm46 45 = some (.aload_n 0, 1) := by decide +kernel
theorem g46_46 : mC xm46 46 = some (.getfield 107, 3) := by decide +kernel
theorem g46_49 : mC xm46 49 = some (.if_icmp .ge 100, 3) := by decide +kernel
theorem g46_52 : mC xm46 52 = some (.aload_n 0, 1) := by decide +kernel
theorem g46_53 : mC xm46 53 = some (.getfield 25, 3) := by decide +kernel
theorem g46_56 : mC xm46 56 = some (.iload_n 3, 1) := by decide +kernel
theorem g46_57 : mC xm46 57 = some (.aaload, 1) := by decide +kernel
theorem g46_58 : mC xm46 58 = some (.astore 4, 2) := by decide +kernel
theorem g46_60 : mC xm46 60 = some (.aload_n 0, 1) := by decide +kernel
theorem g46_61 : mC xm46 61 = some (.aload 4, 2) := by decide +kernel
theorem g46_63 : mC xm46 63 = some (.getfield 124, 3) := by decide +kernel
theorem g46_66 : mC xm46 66 = some (.invokevirtual 117, 3) := by decide +kernel
theorem g46_69 : mC xm46 69 = some (.astore 5, 2) := by decide +kernel
theorem g46_71 : mC xm46 71 = some (.aload 5, 2) := by decide +kernel
theorem g46_73 : mC xm46 73 = some (.ifnull 23, 3) := by decide +kernel
theorem g46_76 : mC xm46 76 = some (.aload 5, 2) := by decide +kernel
theorem g46_78 : mC xm46 78 = some (.getfield 133, 3) := by decide +kernel
theorem g46_81 : mC xm46 81 = some (.aload 5, 2) := by decide +kernel
theorem g46_83 : mC xm46 83 = some (.getfield 472, 3) := by decide +kernel
theorem g46_86 : mC xm46 86 = some (.invokevirtual 478, 3) := by decide +kernel
theorem g46_89 : mC xm46 89 = some (.ifCond .eq 7, 3) := by decide +kernel
theorem g46_92 : mC xm46 92 = some (.iconst 1, 1) := by decide +kernel
theorem g46_93 : mC xm46 93 = some (.goto 4, 3) := by decide +kernel
theorem g46_96 : mC xm46 96 = some (.iconst 0, 1) := by decide +kernel
theorem g46_97 : mC xm46 97 = some (.istore 6, 2) := by decide +kernel
theorem g46_99 : mC xm46 99 = some (.aload 4, 2) := by decide +kernel
theorem g46_101 : mC xm46 101 = some (.getfield 133, 3) := by decide +kernel
theorem g46_104 : mC xm46 104 = some (.aload 4, 2) := by decide +kernel
theorem g46_106 : mC xm46 106 = some (.getfield 472, 3) := by decide +kernel
theorem g46_109 : mC xm46 109 = some (.iload 6, 2) := by decide +kernel
theorem g46_111 : mC xm46 111 = some (.invokevirtual 481, 3) := by decide +kernel
theorem g46_114 : mC xm46 114 = some (.istore 7, 2) := by decide +kernel
theorem g46_116 : mC xm46 116 = some (.iload_n 1, 1) := by decide +kernel
theorem g46_117 : mC xm46 117 = some (.ifCond .ne 13, 3) := by decide +kernel
theorem g46_120 : mC xm46 120 = some (.iload 7, 2) := by decide +kernel
theorem g46_122 : mC xm46 122 = some (.aload 4, 2) := by decide +kernel
theorem g46_124 : mC xm46 124 = some (.getfield 472, 3) := by decide +kernel
theorem g46_127 : mC xm46 127 = some (.if_icmp .eq 7, 3) := by decide +kernel
theorem g46_130 : mC xm46 130 = some (.iconst 1, 1) := by decide +kernel
theorem g46_131 : mC xm46 131 = some (.goto 4, 3) := by decide +kernel
theorem g46_134 : mC xm46 134 = some (.iconst 0, 1) := by decide +kernel
theorem g46_135 : mC xm46 135 = some (.istore_n 1, 1) := by decide +kernel
theorem g46_136 : mC xm46 136 = some (.aload 4, 2) := by decide +kernel
theorem g46_138 : mC xm46 138 = some (.iload 7, 2) := by decide +kernel
theorem g46_140 : mC xm46 140 = some (.putfield 472, 3) := by decide +kernel
theorem g46_143 : mC xm46 143 = some (.iinc 3 1, 3) := by decide +kernel
theorem g46_146 : mC xm46 146 = some (.goto (-102), 3) := by decide +kernel
theorem g46_149 : mC xm46 149 = some (.iinc 2 1, 3) := by decide +kernel
theorem g46_152 : mC xm46 152 = some (.goto (-122), 3) := by decide +kernel
theorem g46_155 : mC xm46 155 = some (.return_, 1) := by decide +kernel
theorem g47_0 : mC xm47 0 = some (.iconst 0, 1) := by decide +kernel
theorem g47_1 : mC xm47 1 = some (.istore_n 2, 1) := by decide +kernel
theorem g47_2 : mC xm47 2 = some (.iload_n 2, 1) := by decide +kernel
theorem g47_3 : mC xm47 3 = some (.aload_n 0, 1) := by decide +kernel
theorem g47_4 : mC xm47 4 = some (.getfield 44, 3) := by decide +kernel
theorem g47_7 : mC xm47 7 = some (.if_icmp .ge 34, 3) := by decide +kernel
theorem g47_10 : mC xm47 10 = some (.aload_n 0, 1) := by decide +kernel
theorem g47_11 : mC xm47 11 = some (.getfield 9, 3) := by decide +kernel
theorem g47_14 : mC xm47 14 = some (.iload_n 2, 1) := by decide +kernel
theorem g47_15 : mC xm47 15 = some (.iaload, 1) := by decide +kernel
theorem g47_16 : mC xm47 16 = some (.iconst 2, 1) := by decide +kernel
theorem g47_17 : mC xm47 17 = some (.if_icmp .ne 18, 3) := by decide +kernel
theorem g47_20 : mC xm47 20 = some (.iload_n 1, 1) := by decide +kernel
theorem g47_21 : mC xm47 21 = some (.aload_n 0, 1) := by decide +kernel
theorem g47_22 : mC xm47 22 = some (.getfield 13, 3) := by decide +kernel
theorem g47_25 : mC xm47 25 = some (.iload_n 2, 1) := by decide +kernel
theorem g47_26 : mC xm47 26 = some (.iaload, 1) := by decide +kernel
theorem g47_27 : mC xm47 27 = some (.invokestatic 48, 3) := by decide +kernel
theorem g47_30 : mC xm47 30 = some (.ifCond .eq 5, 3) := by decide +kernel
theorem g47_33 : mC xm47 33 = some (.iconst 1, 1) := by decide +kernel
theorem g47_34 : mC xm47 34 = some (.ireturn, 1) := by decide +kernel
theorem g47_35 : mC xm47 35 = some (.iinc 2 1, 3) := by decide +kernel
theorem g47_38 : mC xm47 38 = some (.goto (-36), 3) := by decide +kernel
theorem g47_41 : mC xm47 41 = some (.iconst 0, 1) := by decide +kernel
theorem g47_42 : mC xm47 42 = some (.ireturn, 1) := by decide +kernel
theorem g48_0 : mC xm48 0 = some (.iload_n 1, 1) := by decide +kernel
theorem g48_1 : mC xm48 1 = some (.ifCond .lt 22, 3) := by decide +kernel
theorem g48_4 : mC xm48 4 = some (.iload_n 1, 1) := by decide +kernel
theorem g48_5 : mC xm48 5 = some (.bipush 32, 2) := by decide +kernel
theorem g48_7 : mC xm48 7 = some (.if_icmp .ge 16, 3) := by decide +kernel
theorem g48_10 : mC xm48 10 = some (.iload_n 0, 1) := by decide +kernel
theorem g48_11 : mC xm48 11 = some (.iload_n 1, 1) := by decide +kernel
theorem g48_12 : mC xm48 12 = some (.ishr, 1) := by decide +kernel
theorem g48_13 : mC xm48 13 = some (.iconst 1, 1) := by decide +kernel
theorem g48_14 : mC xm48 14 = some (.iand, 1) := by decide +kernel
theorem g48_15 : mC xm48 15 = some (.iconst 1, 1) := by decide +kernel
theorem g48_16 : mC xm48 16 = some (.if_icmp .ne 7, 3) := by decide +kernel
theorem g48_19 : mC xm48 19 = some (.iconst 1, 1) := by decide +kernel
theorem g48_20 : mC xm48 20 = some (.goto 4, 3) := by decide +kernel
theorem g48_23 : mC xm48 23 = some (.iconst 0, 1) := by decide +kernel
theorem g48_24 : mC xm48 24 = some (.ireturn, 1) := by decide +kernel
theorem g49_0 : mC xm49 0 = some (.iload_n 1, 1) := by decide +kernel
theorem g49_1 : mC xm49 1 = some (.istore_n 3, 1) := by decide +kernel
theorem g49_2 : mC xm49 2 = some (.iconst 0, 1) := by decide +kernel
theorem g49_3 : mC xm49 3 = some (.istore 4, 2) := by decide +kernel
theorem g49_5 : mC xm49 5 = some (.iload 4, 2) := by decide +kernel
theorem g49_7 : mC xm49 7 = some (.aload_n 0, 1) := by decide +kernel
theorem g49_8 : mC xm49 8 = some (.getfield 44, 3) := by decide +kernel
theorem g49_11 : mC xm49 11 = some (.if_icmp .ge 32, 3) := by decide +kernel
theorem g49_14 : mC xm49 14 = some (.aload_n 0, 1) := by decide +kernel
theorem g49_15 : mC xm49 15 = some (.iload 4, 2) := by decide +kernel
theorem g49_17 : mC xm49 17 = some (.iload_n 3, 1) := by decide +kernel
theorem g49_18 : mC xm49 18 = some (.iload_n 2, 1) := by decide +kernel
theorem g49_19 : mC xm49 19 = some (.invokevirtual 54, 3) := by decide +kernel
theorem g49_22 : mC xm49 22 = some (.ifCond .eq 15, 3) := by decide +kernel
theorem g49_25 : mC xm49 25 = some (.iload_n 3, 1) := by decide +kernel
theorem g49_26 : mC xm49 26 = some (.iconst 1, 1) := by decide +kernel
theorem g49_27 : mC xm49 27 = some (.aload_n 0, 1) := by decide +kernel
theorem g49_28 : mC xm49 28 = some (.getfield 13, 3) := by decide +kernel
theorem g49_31 : mC xm49 31 = some (.iload 4, 2) := by decide +kernel
theorem g49_33 : mC xm49 33 = some (.iaload, 1) := by decide +kernel
theorem g49_34 : mC xm49 34 = some (.ishl, 1) := by decide +kernel
theorem g49_35 : mC xm49 35 = some (.ior, 1) := by decide +kernel
theorem g49_36 : mC xm49 36 = some (.istore_n 3, 1) := by decide +kernel
theorem g49_37 : mC xm49 37 = some (.iinc 4 1, 3) := by decide +kernel
theorem g49_40 : mC xm49 40 = some (.goto (-35), 3) := by decide +kernel
theorem g49_43 : mC xm49 43 = some (.iload_n 3, 1) := by decide +kernel
theorem g49_44 : mC xm49 44 = some (.ireturn, 1) := by decide +kernel
theorem g50_0 : mC xm50 0 = some (.aload_n 0, 1) := by decide +kernel
theorem g50_1 : mC xm50 1 = some (.getfield 9, 3) := by decide +kernel
theorem g50_4 : mC xm50 4 = some (.iload_n 1, 1) := by decide +kernel
theorem g50_5 : mC xm50 5 = some (.iaload, 1) := by decide +kernel
theorem g50_6 : mC xm50 6 = some (.tableswitch (57) (0) (6) #[(42), (44), (57), (57), (46), (46), (46)], 42) := by decide +kernel
theorem g50_48 : mC xm50 48 = some (.iconst 1, 1) := by decide +kernel
theorem g50_49 : mC xm50 49 = some (.ireturn, 1) := by decide +kernel
theorem g50_50 : mC xm50 50 = some (.iload_n 3, 1) := by decide +kernel
theorem g50_51 : mC xm50 51 = some (.ireturn, 1) := by decide +kernel
theorem g50_52 : mC xm50 52 = some (.iload_n 2, 1) := by decide +kernel
theorem g50_53 : mC xm50 53 = some (.aload_n 0, 1) := by decide +kernel
theorem g50_54 : mC xm50 54 = some (.getfield 16, 3) := by decide +kernel
theorem g50_57 : mC xm50 57 = some (.iload_n 1, 1) := by decide +kernel
theorem g50_58 : mC xm50 58 = some (.iaload, 1) := by decide +kernel
theorem g50_59 : mC xm50 59 = some (.invokestatic 48, 3) := by decide +kernel
theorem g50_62 : mC xm50 62 = some (.ireturn, 1) := by decide +kernel
theorem g50_63 : mC xm50 63 = some (.iconst 0, 1) := by decide +kernel
theorem g50_64 : mC xm50 64 = some (.ireturn, 1) := by decide +kernel
theorem g51_0 : mC xm51 0 = some (.iconst 0, 1) := by decide +kernel
theorem g51_1 : mC xm51 1 = some (.istore_n 2, 1) := by decide +kernel
theorem g51_2 : mC xm51 2 = some (.iconst 0, 1) := by decide +kernel
theorem g51_3 : mC xm51 3 = some (.istore_n 3, 1) := by decide +kernel
theorem g51_4 : mC xm51 4 = some (.iload_n 3, 1) := by decide +kernel
theorem g51_5 : mC xm51 5 = some (.aload_n 0, 1) := by decide +kernel
theorem g51_6 : mC xm51 6 = some (.getfield 44, 3) := by decide +kernel
theorem g51_9 : mC xm51 9 = some (.if_icmp .ge 87, 3) := by decide +kernel
theorem g51_12 : mC xm51 12 = some (.aload_n 0, 1) := by decide +kernel
theorem g51_13 : mC xm51 13 = some (.getfield 9, 3) := by decide +kernel
theorem g51_16 : mC xm51 16 = some (.iload_n 3, 1) := by decide +kernel
theorem g51_17 : mC xm51 17 = some (.iaload, 1) := by decide +kernel
theorem g51_18 : mC xm51 18 = some (.bipush 7, 2) := by decide +kernel
theorem g51_20 : mC xm51 20 = some (.if_icmp .eq 14, 3) := by decide +kernel
theorem g51_23 : mC xm51 23 = some (.aload_n 0, 1) := by decide +kernel
theorem g51_24 : mC xm51 24 = some (.getfield 9, 3) := by decide +kernel
theorem g51_27 : mC xm51 27 = some (.iload_n 3, 1) := by decide +kernel
theorem g51_28 : mC xm51 28 = some (.iaload, 1) := by decide +kernel
theorem g51_29 : mC xm51 29 = some (.bipush 11, 2) := by decide +kernel
theorem g51_31 : mC xm51 31 = some (.if_icmp .ne 59, 3) := by decide +kernel
theorem g51_34 : mC xm51 34 = some (.iload_n 2, 1) := by decide +kernel
theorem g51_35 : mC xm51 35 = some (.iload_n 1, 1) := by decide +kernel
theorem g51_36 : mC xm51 36 = some (.aload_n 0, 1) := by decide +kernel
theorem g51_37 : mC xm51 37 = some (.getfield 13, 3) := by decide +kernel
theorem g51_40 : mC xm51 40 = some (.iload_n 3, 1) := by decide +kernel
theorem g51_41 : mC xm51 41 = some (.iaload, 1) := by decide +kernel
theorem g51_42 : mC xm51 42 = some (.invokestatic 48, 3) := by decide +kernel
theorem g51_45 : mC xm51 45 = some (.ifCond .eq 14, 3) := by decide +kernel
theorem g51_48 : mC xm51 48 = some (.iconst 1, 1) := by decide +kernel
theorem g51_49 : mC xm51 49 = some (.aload_n 0, 1) := by decide +kernel
theorem g51_50 : mC xm51 50 = some (.getfield 16, 3) := by decide +kernel
theorem g51_53 : mC xm51 53 = some (.iload_n 3, 1) := by decide +kernel
theorem g51_54 : mC xm51 54 = some (.iaload, 1) := by decide +kernel
theorem g51_55 : mC xm51 55 = some (.ishl, 1) := by decide +kernel
theorem g51_56 : mC xm51 56 = some (.goto 4, 3) := by decide +kernel
theorem g51_59 : mC xm51 59 = some (.iconst 0, 1) := by decide +kernel
theorem g51_60 : mC xm51 60 = some (.ior, 1) := by decide +kernel
theorem g51_61 : mC xm51 61 = some (.istore_n 2, 1) := by decide +kernel
theorem g51_62 : mC xm51 62 = some (.iload_n 2, 1) := by decide +kernel
theorem g51_63 : mC xm51 63 = some (.iload_n 1, 1) := by decide +kernel
theorem g51_64 : mC xm51 64 = some (.aload_n 0, 1) := by decide +kernel
theorem g51_65 : mC xm51 65 = some (.getfield 16, 3) := by decide +kernel
theorem g51_68 : mC xm51 68 = some (.iload_n 3, 1) := by decide +kernel
theorem g51_69 : mC xm51 69 = some (.iaload, 1) := by decide +kernel
theorem g51_70 : mC xm51 70 = some (.invokestatic 48, 3) := by decide +kernel
theorem g51_73 : mC xm51 73 = some (.ifCond .eq 14, 3) := by decide +kernel
theorem g51_76 : mC xm51 76 = some (.iconst 1, 1) := by decide +kernel
theorem g51_77 : mC xm51 77 = some (.aload_n 0, 1) := by decide +kernel
theorem g51_78 : mC xm51 78 = some (.getfield 13, 3) := by decide +kernel
theorem g51_81 : mC xm51 81 = some (.iload_n 3, 1) := by decide +kernel
theorem g51_82 : mC xm51 82 = some (.iaload, 1) := by decide +kernel
theorem g51_83 : mC xm51 83 = some (.ishl, 1) := by decide +kernel
theorem g51_84 : mC xm51 84 = some (.goto 4, 3) := by decide +kernel
theorem g51_87 : mC xm51 87 = some (.iconst 0, 1) := by decide +kernel
theorem g51_88 : mC xm51 88 = some (.ior, 1) := by decide +kernel
theorem g51_89 : mC xm51 89 = some (.istore_n 2, 1) := by decide +kernel
theorem g51_90 : mC xm51 90 = some (.iinc 3 1, 3) := by decide +kernel
theorem g51_93 : mC xm51 93 = some (.goto (-89), 3) := by decide +kernel
theorem g51_96 : mC xm51 96 = some (.iload_n 2, 1) := by decide +kernel
theorem g51_97 : mC xm51 97 = some (.ireturn, 1) := by decide +kernel
theorem g181_0 : mC xm181 0 = some (.iload_n 1, 1) := by decide +kernel
theorem g181_1 : mC xm181 1 = some (.iload_n 0, 1) := by decide +kernel
theorem g181_2 : mC xm181 2 = some (.if_icmp .gt 12, 3) := by decide +kernel
theorem g181_5 : mC xm181 5 = some (.iload_n 0, 1) := by decide +kernel
theorem g181_6 : mC xm181 6 = some (.iload_n 2, 1) := by decide +kernel
theorem g181_7 : mC xm181 7 = some (.if_icmp .gt 7, 3) := by decide +kernel
theorem g181_10 : mC xm181 10 = some (.iconst 1, 1) := by decide +kernel
theorem g181_11 : mC xm181 11 = some (.goto 4, 3) := by decide +kernel
theorem g181_14 : mC xm181 14 = some (.iconst 0, 1) := by decide +kernel
theorem g181_15 : mC xm181 15 = some (.ireturn, 1) := by decide +kernel
theorem g201_0 : mC xm201 0 = some (.iload_n 1, 1) := by decide +kernel
theorem g201_1 : mC xm201 1 = some (.iconst 0, 1) := by decide +kernel
theorem g201_2 : mC xm201 2 = some (.aload_n 0, 1) := by decide +kernel
theorem g201_3 : mC xm201 3 = some (.getfield 171, 3) := by decide +kernel
theorem g201_6 : mC xm201 6 = some (.iconst 1, 1) := by decide +kernel
theorem g201_7 : mC xm201 7 = some (.isub, 1) := by decide +kernel
theorem g201_8 : mC xm201 8 = some (.invokestatic 175, 3) := by decide +kernel
theorem g201_11 : mC xm201 11 = some (.ireturn, 1) := by decide +kernel
theorem g225_0 : mC xm225 0 = some (.aload_n 0, 1) := by decide +kernel
theorem g225_1 : mC xm225 1 = some (.iload_n 1, 1) := by decide +kernel
theorem g225_2 : mC xm225 2 = some (.invokevirtual 326, 3) := by decide +kernel
theorem g225_5 : mC xm225 5 = some (.ifCond .eq 12, 3) := by decide +kernel
theorem g225_8 : mC xm225 8 = some (.iload_n 2, 1) := by decide +kernel
theorem g225_9 : mC xm225 9 = some (.iconst 0, 1) := by decide +kernel
theorem g225_10 : mC xm225 10 = some (.iconst 5, 1) := by decide +kernel
theorem g225_11 : mC xm225 11 = some (.invokestatic 175, 3) := by decide +kernel
theorem g225_14 : mC xm225 14 = some (.ifCond .ne 6, 3) := by decide +kernel
theorem g225_17 : mC xm225 17 = some (.bipush (-5), 2) := by decide +kernel
theorem g225_19 : mC xm225 19 = some (.ireturn, 1) := by decide +kernel
theorem g225_20 : mC xm225 20 = some (.iload_n 3, 1) := by decide +kernel
theorem g225_21 : mC xm225 21 = some (.tableswitch (52) (0) (2) #[(27), (36), (45)], 27) := by decide +kernel
theorem g225_48 : mC xm225 48 = some (.aload_n 0, 1) := by decide +kernel
theorem g225_49 : mC xm225 49 = some (.getfield 18, 3) := by decide +kernel
theorem g225_52 : mC xm225 52 = some (.iload_n 1, 1) := by decide +kernel
theorem g225_53 : mC xm225 53 = some (.aaload, 1) := by decide +kernel
theorem g225_54 : mC xm225 54 = some (.iload_n 2, 1) := by decide +kernel
theorem g225_55 : mC xm225 55 = some (.iaload, 1) := by decide +kernel
theorem g225_56 : mC xm225 56 = some (.ireturn, 1) := by decide +kernel
theorem g225_57 : mC xm225 57 = some (.aload_n 0, 1) := by decide +kernel
theorem g225_58 : mC xm225 58 = some (.getfield 21, 3) := by decide +kernel
theorem g225_61 : mC xm225 61 = some (.iload_n 1, 1) := by decide +kernel
theorem g225_62 : mC xm225 62 = some (.aaload, 1) := by decide +kernel
theorem g225_63 : mC xm225 63 = some (.iload_n 2, 1) := by decide +kernel
theorem g225_64 : mC xm225 64 = some (.iaload, 1) := by decide +kernel
theorem g225_65 : mC xm225 65 = some (.ireturn, 1) := by decide +kernel
theorem g225_66 : mC xm225 66 = some (.aload_n 0, 1) := by decide +kernel
theorem g225_67 : mC xm225 67 = some (.iload_n 1, 1) := by decide +kernel
theorem g225_68 : mC xm225 68 = some (.iload_n 2, 1) := by decide +kernel
theorem g225_69 : mC xm225 69 = some (.invokevirtual 359, 3) := by decide +kernel
theorem g225_72 : mC xm225 72 = some (.ireturn, 1) := by decide +kernel
theorem g225_73 : mC xm225 73 = some (.bipush (-5), 2) := by decide +kernel
theorem g225_75 : mC xm225 75 = some (.ireturn, 1) := by decide +kernel
theorem g226_0 : mC xm226 0 = some (.aload_n 0, 1) := by decide +kernel
theorem g226_1 : mC xm226 1 = some (.invokevirtual 356, 3) := by decide +kernel
theorem g226_4 : mC xm226 4 = some (.aload_n 0, 1) := by decide +kernel
theorem g226_5 : mC xm226 5 = some (.getfield 159, 3) := by decide +kernel
theorem g226_8 : mC xm226 8 = some (.iload_n 1, 1) := by decide +kernel
theorem g226_9 : mC xm226 9 = some (.aaload, 1) := by decide +kernel
theorem g226_10 : mC xm226 10 = some (.iload_n 2, 1) := by decide +kernel
theorem g226_11 : mC xm226 11 = some (.baload, 1) := by decide +kernel
theorem g226_12 : mC xm226 12 = some (.ifCond .eq 5, 3) := by decide +kernel
theorem g226_15 : mC xm226 15 = some (.iconst 1, 1) := by decide +kernel
theorem g226_16 : mC xm226 16 = some (.ireturn, 1) := by decide +kernel
theorem g226_17 : mC xm226 17 = some (.iconst 0, 1) := by decide +kernel
theorem g226_18 : mC xm226 18 = some (.istore_n 3, 1) := by decide +kernel
theorem g226_19 : mC xm226 19 = some (.iload_n 3, 1) := by decide +kernel
theorem g226_20 : mC xm226 20 = some (.aload_n 0, 1) := by decide +kernel
theorem g226_21 : mC xm226 21 = some (.getfield 9, 3) := by decide +kernel
theorem g226_24 : mC xm226 24 = some (.iload_n 1, 1) := by decide +kernel
theorem g226_25 : mC xm226 25 = some (.iaload, 1) := by decide +kernel
theorem g226_26 : mC xm226 26 = some (.if_icmp .ge 109, 3) := by decide +kernel
theorem g226_29 : mC xm226 29 = some (.aload_n 0, 1) := by decide +kernel
theorem g226_30 : mC xm226 30 = some (.getfield 15, 3) := by decide +kernel
theorem g226_33 : mC xm226 33 = some (.iload_n 1, 1) := by decide +kernel
theorem g226_34 : mC xm226 34 = some (.aaload, 1) := by decide +kernel
theorem g226_35 : mC xm226 35 = some (.astore 4, 2) := by decide +kernel
theorem g226_37 : mC xm226 37 = some (.aload 4, 2) := by decide +kernel
theorem g226_39 : mC xm226 39 = some (.iconst 4, 1) := by decide +kernel
theorem g226_40 : mC xm226 40 = some (.iload_n 3, 1) := by decide +kernel
theorem g226_41 : mC xm226 41 = some (.imul, 1) := by decide +kernel
theorem g226_42 : mC xm226 42 = some (.iconst 1, 1) := by decide +kernel
theorem g226_43 : mC xm226 43 = some (.iadd, 1) := by decide +kernel
theorem g226_44 : mC xm226 44 = some (.iaload, 1) := by decide +kernel
theorem g226_45 : mC xm226 45 = some (.istore 5, 2) := by decide +kernel
theorem g226_47 : mC xm226 47 = some (.aload 4, 2) := by decide +kernel
theorem g226_49 : mC xm226 49 = some (.iconst 4, 1) := by decide +kernel
theorem g226_50 : mC xm226 50 = some (.iload_n 3, 1) := by decide +kernel
theorem g226_51 : mC xm226 51 = some (.imul, 1) := by decide +kernel
theorem g226_52 : mC xm226 52 = some (.iconst 2, 1) := by decide +kernel
theorem g226_53 : mC xm226 53 = some (.iadd, 1) := by decide +kernel
theorem g226_54 : mC xm226 54 = some (.iaload, 1) := by decide +kernel
theorem g226_55 : mC xm226 55 = some (.istore 6, 2) := by decide +kernel
theorem g226_57 : mC xm226 57 = some (.aload 4, 2) := by decide +kernel
theorem g226_59 : mC xm226 59 = some (.iconst 4, 1) := by decide +kernel
theorem g226_60 : mC xm226 60 = some (.iload_n 3, 1) := by decide +kernel
theorem g226_61 : mC xm226 61 = some (.imul, 1) := by decide +kernel
theorem g226_62 : mC xm226 62 = some (.iaload, 1) := by decide +kernel
theorem g226_63 : mC xm226 63 = some (.bipush 7, 2) := by decide +kernel
theorem g226_65 : mC xm226 65 = some (.if_icmp .eq 14, 3) := by decide +kernel
theorem g226_68 : mC xm226 68 = some (.aload 4, 2) := by decide +kernel
theorem g226_70 : mC xm226 70 = some (.iconst 4, 1) := by decide +kernel
theorem g226_71 : mC xm226 71 = some (.iload_n 3, 1) := by decide +kernel
theorem g226_72 : mC xm226 72 = some (.imul, 1) := by decide +kernel
theorem g226_73 : mC xm226 73 = some (.iaload, 1) := by decide +kernel
theorem g226_74 : mC xm226 74 = some (.bipush 8, 2) := by decide +kernel
theorem g226_76 : mC xm226 76 = some (.if_icmp .ne 7, 3) := by decide +kernel
theorem g226_79 : mC xm226 79 = some (.iconst 1, 1) := by decide +kernel
theorem g226_80 : mC xm226 80 = some (.goto 4, 3) := by decide +kernel
theorem g226_83 : mC xm226 83 = some (.iconst 0, 1) := by decide +kernel
theorem g226_84 : mC xm226 84 = some (.istore 7, 2) := by decide +kernel
theorem g226_86 : mC xm226 86 = some (.iload 7, 2) := by decide +kernel
theorem g226_88 : mC xm226 88 = some (.ifCond .eq 41, 3) := by decide +kernel
theorem g226_91 : mC xm226 91 = some (.iload 5, 2) := by decide +kernel
theorem g226_93 : mC xm226 93 = some (.iload_n 2, 1) := by decide +kernel
theorem g226_94 : mC xm226 94 = some (.if_icmp .ne 15, 3) := by decide +kernel
theorem g226_97 : mC xm226 97 = some (.aload_n 0, 1) := by decide +kernel
theorem g226_98 : mC xm226 98 = some (.getfield 159, 3) := by decide +kernel
theorem g226_101 : mC xm226 101 = some (.iload_n 1, 1) := by decide +kernel
theorem g226_102 : mC xm226 102 = some (.aaload, 1) := by decide +kernel
theorem g226_103 : mC xm226 103 = some (.iload 6, 2) := by decide +kernel
theorem g226_105 : mC xm226 105 = some (.baload, 1) := by decide +kernel
theorem g226_106 : mC xm226 106 = some (.ifCond .ne 21, 3) := by decide +kernel
theorem g226_109 : mC xm226 109 = some (.iload 6, 2) := by decide +kernel
theorem g226_111 : mC xm226 111 = some (.iload_n 2, 1) := by decide +kernel
theorem g226_112 : mC xm226 112 = some (.if_icmp .ne 17, 3) := by decide +kernel
theorem g226_115 : mC xm226 115 = some (.aload_n 0, 1) := by decide +kernel
theorem g226_116 : mC xm226 116 = some (.getfield 159, 3) := by decide +kernel
theorem g226_119 : mC xm226 119 = some (.iload_n 1, 1) := by decide +kernel
theorem g226_120 : mC xm226 120 = some (.aaload, 1) := by decide +kernel
theorem g226_121 : mC xm226 121 = some (.iload 5, 2) := by decide +kernel
theorem g226_123 : mC xm226 123 = some (.baload, 1) := by decide +kernel
theorem g226_124 : mC xm226 124 = some (.ifCond .eq 5, 3) := by decide +kernel
theorem g226_127 : mC xm226 127 = some (.iconst 2, 1) := by decide +kernel
theorem g226_128 : mC xm226 128 = some (.ireturn, 1) := by decide +kernel
theorem g226_129 : mC xm226 129 = some (.iinc 3 1, 3) := by decide +kernel
theorem g226_132 : mC xm226 132 = some (.goto (-113), 3) := by decide +kernel
theorem g226_135 : mC xm226 135 = some (.iconst 0, 1) := by decide +kernel
theorem g226_136 : mC xm226 136 = some (.ireturn, 1) := by decide +kernel
theorem g227_0 : mC xm227 0 = some (.iconst 0, 1) := by decide +kernel
theorem g227_1 : mC xm227 1 = some (.istore_n 1, 1) := by decide +kernel
theorem g227_2 : mC xm227 2 = some (.iload_n 1, 1) := by decide +kernel
theorem g227_3 : mC xm227 3 = some (.aload_n 0, 1) := by decide +kernel
theorem g227_4 : mC xm227 4 = some (.getfield 171, 3) := by decide +kernel
theorem g227_7 : mC xm227 7 = some (.if_icmp .ge 32, 3) := by decide +kernel
theorem g227_10 : mC xm227 10 = some (.iconst 0, 1) := by decide +kernel
theorem g227_11 : mC xm227 11 = some (.istore_n 2, 1) := by decide +kernel
theorem g227_12 : mC xm227 12 = some (.iload_n 2, 1) := by decide +kernel
theorem g227_13 : mC xm227 13 = some (.bipush 6, 2) := by decide +kernel
theorem g227_15 : mC xm227 15 = some (.if_icmp .ge 18, 3) := by decide +kernel
theorem g227_18 : mC xm227 18 = some (.aload_n 0, 1) := by decide +kernel
theorem g227_19 : mC xm227 19 = some (.getfield 159, 3) := by decide +kernel
theorem g227_22 : mC xm227 22 = some (.iload_n 1, 1) := by decide +kernel
theorem g227_23 : mC xm227 23 = some (.aaload, 1) := by decide +kernel
theorem g227_24 : mC xm227 24 = some (.iload_n 2, 1) := by decide +kernel
theorem g227_25 : mC xm227 25 = some (.iconst 0, 1) := by decide +kernel
theorem g227_26 : mC xm227 26 = some (.bastore, 1) := by decide +kernel
theorem g227_27 : mC xm227 27 = some (.iinc 2 1, 3) := by decide +kernel
theorem g227_30 : mC xm227 30 = some (.goto (-18), 3) := by decide +kernel
theorem g227_33 : mC xm227 33 = some (.iinc 1 1, 3) := by decide +kernel
theorem g227_36 : mC xm227 36 = some (.goto (-34), 3) := by decide +kernel
theorem g227_39 : mC xm227 39 = some (.iconst 1, 1) := by decide +kernel
theorem g227_40 : mC xm227 40 = some (.istore_n 1, 1) := by decide +kernel
theorem g227_41 : mC xm227 41 = some (.iload_n 1, 1) := by decide +kernel
theorem g227_42 : mC xm227 42 = some (.ifCond .eq 108, 3) := by decide +kernel
theorem g227_45 : mC xm227 45 = some (.iconst 0, 1) := by decide +kernel
theorem g227_46 : mC xm227 46 = some (.istore_n 1, 1) := by decide +kernel
theorem g227_47 : mC xm227 47 = some (.iconst 0, 1) := by decide +kernel
theorem g227_48 : mC xm227 48 = some (.istore_n 2, 1) := by decide +kernel
theorem g227_49 : mC xm227 49 = some (.iload_n 2, 1) := by decide +kernel
theorem g227_50 : mC xm227 50 = some (.aload_n 0, 1) := by decide +kernel
theorem g227_51 : mC xm227 51 = some (.getfield 171, 3) := by decide +kernel
theorem g227_54 : mC xm227 54 = some (.if_icmp .ge 93, 3) := by decide +kernel
theorem g227_57 : mC xm227 57 = some (.iconst 0, 1) := by decide +kernel
theorem g227_58 : mC xm227 58 = some (.istore_n 3, 1) := by decide +kernel
theorem g227_59 : mC xm227 59 = some (.iload_n 3, 1) := by decide +kernel
theorem g227_60 : mC xm227 60 = some (.aload_n 0, 1) := by decide +kernel
theorem g227_61 : mC xm227 61 = some (.getfield 9, 3) := by decide +kernel
theorem g227_64 : mC xm227 64 = some (.iload_n 2, 1) := by decide +kernel
theorem g227_65 : mC xm227 65 = some (.iaload, 1) := by decide +kernel
theorem g227_66 : mC xm227 66 = some (.if_icmp .ge 75, 3) := by decide +kernel
theorem g227_69 : mC xm227 69 = some (.aload_n 0, 1) := by decide +kernel
theorem g227_70 : mC xm227 70 = some (.getfield 15, 3) := by decide +kernel
theorem g227_73 : mC xm227 73 = some (.iload_n 2, 1) := by decide +kernel
theorem g227_74 : mC xm227 74 = some (.aaload, 1) := by decide +kernel
theorem g227_75 : mC xm227 75 = some (.iconst 4, 1) := by decide +kernel
theorem g227_76 : mC xm227 76 = some (.iload_n 3, 1) := by decide +kernel
theorem g227_77 : mC xm227 77 = some (.imul, 1) := by decide +kernel
theorem g227_78 : mC xm227 78 = some (.iconst 1, 1) := by decide +kernel
theorem g227_79 : mC xm227 79 = some (.iadd, 1) := by decide +kernel
theorem g227_80 : mC xm227 80 = some (.iaload, 1) := by decide +kernel
theorem g227_81 : mC xm227 81 = some (.istore 4, 2) := by decide +kernel
theorem g227_83 : mC xm227 83 = some (.aload_n 0, 1) := by decide +kernel
theorem g227_84 : mC xm227 84 = some (.getfield 15, 3) := by decide +kernel
theorem g227_87 : mC xm227 87 = some (.iload_n 2, 1) := by decide +kernel
theorem g227_88 : mC xm227 88 = some (.aaload, 1) := by decide +kernel
theorem g227_89 : mC xm227 89 = some (.iconst 4, 1) := by decide +kernel
theorem g227_90 : mC xm227 90 = some (.iload_n 3, 1) := by decide +kernel
theorem g227_91 : mC xm227 91 = some (.imul, 1) := by decide +kernel
theorem g227_92 : mC xm227 92 = some (.iaload, 1) := by decide +kernel
theorem g227_93 : mC xm227 93 = some (.istore 5, 2) := by decide +kernel
theorem g227_95 : mC xm227 95 = some (.iload 5, 2) := by decide +kernel
theorem g227_97 : mC xm227 97 = some (.bipush 10, 2) := by decide +kernel
theorem g227_99 : mC xm227 99 = some (.if_icmp .ge 36, 3) := by decide +kernel
theorem g227_102 : mC xm227 102 = some (.aload_n 0, 1) := by decide +kernel
theorem g227_103 : mC xm227 103 = some (.iload_n 2, 1) := by decide +kernel
theorem g227_104 : mC xm227 104 = some (.iload_n 3, 1) := by decide +kernel
theorem g227_105 : mC xm227 105 = some (.invokevirtual 353, 3) := by decide +kernel
theorem g227_108 : mC xm227 108 = some (.ifCond .eq 27, 3) := by decide +kernel
theorem g227_111 : mC xm227 111 = some (.aload_n 0, 1) := by decide +kernel
theorem g227_112 : mC xm227 112 = some (.getfield 159, 3) := by decide +kernel
theorem g227_115 : mC xm227 115 = some (.iload_n 2, 1) := by decide +kernel
theorem g227_116 : mC xm227 116 = some (.aaload, 1) := by decide +kernel
theorem g227_117 : mC xm227 117 = some (.iload 4, 2) := by decide +kernel
theorem g227_119 : mC xm227 119 = some (.baload, 1) := by decide +kernel
theorem g227_120 : mC xm227 120 = some (.ifCond .ne 15, 3) := by decide +kernel
theorem g227_123 : mC xm227 123 = some (.aload_n 0, 1) := by decide +kernel
theorem g227_124 : mC xm227 124 = some (.getfield 159, 3) := by decide +kernel
theorem g227_127 : mC xm227 127 = some (.iload_n 2, 1) := by decide +kernel
theorem g227_128 : mC xm227 128 = some (.aaload, 1) := by decide +kernel
theorem g227_129 : mC xm227 129 = some (.iload 4, 2) := by decide +kernel
theorem g227_131 : mC xm227 131 = some (.iconst 1, 1) := by decide +kernel
theorem g227_132 : mC xm227 132 = some (.bastore, 1) := by decide +kernel
theorem g227_133 : mC xm227 133 = some (.iconst 1, 1) := by decide +kernel
theorem g227_134 : mC xm227 134 = some (.istore_n 1, 1) := by decide +kernel
theorem g227_135 : mC xm227 135 = some (.iinc 3 1, 3) := by decide +kernel
theorem g227_138 : mC xm227 138 = some (.goto (-79), 3) := by decide +kernel
theorem g227_141 : mC xm227 141 = some (.iinc 2 1, 3) := by decide +kernel
theorem g227_144 : mC xm227 144 = some (.goto (-95), 3) := by decide +kernel
theorem g227_147 : mC xm227 147 = some (.goto (-106), 3) := by decide +kernel
theorem g227_150 : mC xm227 150 = some (.return_, 1) := by decide +kernel
theorem g228_0 : mC xm228 0 = some (.aload_n 0, 1) := by decide +kernel
theorem g228_1 : mC xm228 1 = some (.getfield 15, 3) := by decide +kernel
theorem g228_4 : mC xm228 4 = some (.iload_n 1, 1) := by decide +kernel
theorem g228_5 : mC xm228 5 = some (.aaload, 1) := by decide +kernel
theorem g228_6 : mC xm228 6 = some (.iconst 4, 1) := by decide +kernel
theorem g228_7 : mC xm228 7 = some (.iload_n 2, 1) := by decide +kernel
theorem g228_8 : mC xm228 8 = some (.imul, 1) := by decide +kernel
theorem g228_9 : mC xm228 9 = some (.iaload, 1) := by decide +kernel
theorem g228_10 : mC xm228 10 = some (.istore_n 3, 1) := by decide +kernel
theorem g228_11 : mC xm228 11 = some (.aload_n 0, 1) := by decide +kernel
theorem g228_12 : mC xm228 12 = some (.getfield 15, 3) := by decide +kernel
theorem g228_15 : mC xm228 15 = some (.iload_n 1, 1) := by decide +kernel
theorem g228_16 : mC xm228 16 = some (.aaload, 1) := by decide +kernel
theorem g228_17 : mC xm228 17 = some (.iconst 4, 1) := by decide +kernel
theorem g228_18 : mC xm228 18 = some (.iload_n 2, 1) := by decide +kernel
theorem g228_19 : mC xm228 19 = some (.imul, 1) := by decide +kernel
theorem g228_20 : mC xm228 20 = some (.iconst 2, 1) := by decide +kernel
theorem g228_21 : mC xm228 21 = some (.iadd, 1) := by decide +kernel
theorem g228_22 : mC xm228 22 = some (.iaload, 1) := by decide +kernel
theorem g228_23 : mC xm228 23 = some (.istore 4, 2) := by decide +kernel
theorem g228_25 : mC xm228 25 = some (.iload_n 3, 1) := by decide +kernel
theorem g228_26 : mC xm228 26 = some (.iconst 4, 1) := by decide +kernel
theorem g228_27 : mC xm228 27 = some (.if_icmp .eq 14, 3) := by decide +kernel
theorem g228_30 : mC xm228 30 = some (.iload_n 3, 1) := by decide +kernel
theorem g228_31 : mC xm228 31 = some (.iconst 5, 1) := by decide +kernel
theorem g228_32 : mC xm228 32 = some (.if_icmp .eq 9, 3) := by decide +kernel
theorem g228_35 : mC xm228 35 = some (.iload_n 3, 1) := by decide +kernel
theorem g228_36 : mC xm228 36 = some (.bipush 6, 2) := by decide +kernel
theorem g228_38 : mC xm228 38 = some (.if_icmp .ne 7, 3) := by decide +kernel
theorem g228_41 : mC xm228 41 = some (.iconst 1, 1) := by decide +kernel
theorem g228_42 : mC xm228 42 = some (.goto 4, 3) := by decide +kernel
theorem g228_45 : mC xm228 45 = some (.iconst 0, 1) := by decide +kernel
theorem g228_46 : mC xm228 46 = some (.istore 5, 2) := by decide +kernel
theorem g228_48 : mC xm228 48 = some (.iload_n 3, 1) := by decide +kernel
theorem g228_49 : mC xm228 49 = some (.ifCond .eq 47, 3) := by decide +kernel
theorem g228_52 : mC xm228 52 = some (.iload 5, 2) := by decide +kernel
theorem g228_54 : mC xm228 54 = some (.ifCond .eq 15, 3) := by decide +kernel
theorem g228_57 : mC xm228 57 = some (.aload_n 0, 1) := by decide +kernel
theorem g228_58 : mC xm228 58 = some (.getfield 159, 3) := by decide +kernel
theorem g228_61 : mC xm228 61 = some (.iload_n 1, 1) := by decide +kernel
theorem g228_62 : mC xm228 62 = some (.aaload, 1) := by decide +kernel
theorem g228_63 : mC xm228 63 = some (.iload 4, 2) := by decide +kernel
theorem g228_65 : mC xm228 65 = some (.baload, 1) := by decide +kernel
theorem g228_66 : mC xm228 66 = some (.ifCond .ne 30, 3) := by decide +kernel
theorem g228_69 : mC xm228 69 = some (.iload_n 3, 1) := by decide +kernel
theorem g228_70 : mC xm228 70 = some (.iconst 1, 1) := by decide +kernel
theorem g228_71 : mC xm228 71 = some (.if_icmp .ne 29, 3) := by decide +kernel
theorem g228_74 : mC xm228 74 = some (.aload_n 0, 1) := by decide +kernel
theorem g228_75 : mC xm228 75 = some (.getfield 27, 3) := by decide +kernel
theorem g228_78 : mC xm228 78 = some (.iload_n 1, 1) := by decide +kernel
theorem g228_79 : mC xm228 79 = some (.iaload, 1) := by decide +kernel
theorem g228_80 : mC xm228 80 = some (.ifCond .lt 20, 3) := by decide +kernel
theorem g228_83 : mC xm228 83 = some (.aload_n 0, 1) := by decide +kernel
theorem g228_84 : mC xm228 84 = some (.aload_n 0, 1) := by decide +kernel
theorem g228_85 : mC xm228 85 = some (.getfield 27, 3) := by decide +kernel
theorem g228_88 : mC xm228 88 = some (.iload_n 1, 1) := by decide +kernel
theorem g228_89 : mC xm228 89 = some (.iaload, 1) := by decide +kernel
theorem g228_90 : mC xm228 90 = some (.invokevirtual 350, 3) := by decide +kernel
theorem g228_93 : mC xm228 93 = some (.ifCond .eq 7, 3) := by decide +kernel
theorem g228_96 : mC xm228 96 = some (.iconst 1, 1) := by decide +kernel
theorem g228_97 : mC xm228 97 = some (.goto 4, 3) := by decide +kernel
theorem g228_100 : mC xm228 100 = some (.iconst 0, 1) := by decide +kernel
theorem g228_101 : mC xm228 101 = some (.ireturn, 1) := by decide +kernel
theorem g229_0 : mC xm229 0 = some (.iconst 0, 1) := by decide +kernel
theorem g229_1 : mC xm229 1 = some (.istore_n 2, 1) := by decide +kernel
theorem g229_2 : mC xm229 2 = some (.iload_n 2, 1) := by decide +kernel
theorem g229_3 : mC xm229 3 = some (.aload_n 0, 1) := by decide +kernel
theorem g229_4 : mC xm229 4 = some (.getfield 9, 3) := by decide +kernel
theorem g229_7 : mC xm229 7 = some (.iload_n 1, 1) := by decide +kernel
theorem g229_8 : mC xm229 8 = some (.iaload, 1) := by decide +kernel
theorem g229_9 : mC xm229 9 = some (.if_icmp .ge 47, 3) := by decide +kernel
theorem g229_12 : mC xm229 12 = some (.aload_n 0, 1) := by decide +kernel
theorem g229_13 : mC xm229 13 = some (.getfield 15, 3) := by decide +kernel
theorem g229_16 : mC xm229 16 = some (.iload_n 1, 1) := by decide +kernel
theorem g229_17 : mC xm229 17 = some (.aaload, 1) := by decide +kernel
theorem g229_18 : mC xm229 18 = some (.iconst 4, 1) := by decide +kernel
theorem g229_19 : mC xm229 19 = some (.iload_n 2, 1) := by decide +kernel
theorem g229_20 : mC xm229 20 = some (.imul, 1) := by decide +kernel
theorem g229_21 : mC xm229 21 = some (.iaload, 1) := by decide +kernel
theorem g229_22 : mC xm229 22 = some (.iconst 2, 1) := by decide +kernel
theorem g229_23 : mC xm229 23 = some (.if_icmp .ne 27, 3) := by decide +kernel
theorem g229_26 : mC xm229 26 = some (.aload_n 0, 1) := by decide +kernel
theorem g229_27 : mC xm229 27 = some (.getfield 159, 3) := by decide +kernel
theorem g229_30 : mC xm229 30 = some (.iload_n 1, 1) := by decide +kernel
theorem g229_31 : mC xm229 31 = some (.aaload, 1) := by decide +kernel
theorem g229_32 : mC xm229 32 = some (.aload_n 0, 1) := by decide +kernel
theorem g229_33 : mC xm229 33 = some (.getfield 15, 3) := by decide +kernel
theorem g229_36 : mC xm229 36 = some (.iload_n 1, 1) := by decide +kernel
theorem g229_37 : mC xm229 37 = some (.aaload, 1) := by decide +kernel
theorem g229_38 : mC xm229 38 = some (.iconst 4, 1) := by decide +kernel
theorem g229_39 : mC xm229 39 = some (.iload_n 2, 1) := by decide +kernel
theorem g229_40 : mC xm229 40 = some (.imul, 1) := by decide +kernel
theorem g229_41 : mC xm229 41 = some (.iconst 1, 1) := by decide +kernel
theorem g229_42 : mC xm229 42 = some (.iadd, 1) := by decide +kernel
theorem g229_43 : mC xm229 43 = some (.iaload, 1) := by decide +kernel
theorem g229_44 : mC xm229 44 = some (.baload, 1) := by decide +kernel
theorem g229_45 : mC xm229 45 = some (.ifCond .eq 5, 3) := by decide +kernel
theorem g229_48 : mC xm229 48 = some (.iconst 1, 1) := by decide +kernel
theorem g229_49 : mC xm229 49 = some (.ireturn, 1) := by decide +kernel
theorem g229_50 : mC xm229 50 = some (.iinc 2 1, 3) := by decide +kernel
theorem g229_53 : mC xm229 53 = some (.goto (-51), 3) := by decide +kernel
theorem g229_56 : mC xm229 56 = some (.iconst 0, 1) := by decide +kernel
theorem g229_57 : mC xm229 57 = some (.ireturn, 1) := by decide +kernel
end XH5
