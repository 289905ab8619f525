/-! p31: the instructions on the ways. -/
noncomputable section XH31
set_option maxRecDepth 1000000 in
theorem g_q48 : tMth x_tb 48 = some xm48 := rfl
set_option maxRecDepth 1000000 in
theorem g_q102 : tMth x_tb 102 = some xm102 := rfl
set_option maxRecDepth 1000000 in
theorem g_q110 : tMth x_tb 110 = some xm110 := rfl
set_option maxRecDepth 1000000 in
theorem g_q111 : tMth x_tb 111 = some xm111 := rfl
set_option maxRecDepth 1000000 in
theorem g_q126 : tMth x_tb 126 = some xm126 := rfl
set_option maxRecDepth 1000000 in
theorem g_q136 : tMth x_tb 136 = some xm136 := rfl
set_option maxRecDepth 1000000 in
theorem g_q137 : tMth x_tb 137 = some xm137 := rfl
set_option maxRecDepth 1000000 in
theorem g_q138 : tMth x_tb 138 = some xm138 := rfl
set_option maxRecDepth 1000000 in
theorem g_q139 : tMth x_tb 139 = some xm139 := rfl
set_option maxRecDepth 1000000 in
theorem g_q248 : tMth x_tb 248 = some xm248 := rfl
set_option maxRecDepth 1000000 in
theorem g_q249 : tMth x_tb 249 = some xm249 := rfl
theorem g48_0 : mC xm48 0 = some (.iload_n 1, 1) := by decide +kernel
theorem g48_1 : mC xm48 1 = some (.ifCond .lt 22, 3) := by decide +kernel
theorem g48_4 : mC xm48 4 = some (.iload_n 1, 1) := by decide +kernel
theorem g48_5 : mC xm48 5 = some (.bipush 32, 2) := by decide +kernel
theorem g48_7 : mC xm48 7 = some (.if_icmp .ge 16, 3) := by decide +kernel
theorem g48_10 : mC xm48 10 = some (.iload_n 0, 1) := by decide +kernel
theorem g48_11 : mC xm48 11 = some (.iload_n 1, 1) := by decide +kernel
theorem g48_12 : mC xm48 12 = some (.ishr, 1) := by decide +kernel
theorem g48_13 : mC xm48 13 = some (.iconst 1, 1) := by decide +kernel
theorem g48_14 : mC xm48 14 = some (.iand, 1) := by decide +kernel
theorem g48_15 : mC xm48 15 = some (.iconst 1, 1) := by decide +kernel
theorem g48_16 : mC xm48 16 = some (.if_icmp .ne 7, 3) := by decide +kernel
theorem g48_19 : mC xm48 19 = some (.iconst 1, 1) := by decide +kernel
theorem g48_20 : mC xm48 20 = some (.goto 4, 3) := by decide +kernel
theorem g48_23 : mC xm48 23 = some (.iconst 0, 1) := by decide +kernel
theorem g48_24 : mC xm48 24 = some (.ireturn, 1) := by decide +kernel
theorem g102_0 : mC xm102 0 = some (.iload_n 2, 1) := by decide +kernel
theorem g102_1 : mC xm102 1 = some (.aload_n 0, 1) := by decide +kernel
theorem g102_2 : mC xm102 2 = some (.getfield 15, 3) := by decide +kernel
theorem g102_5 : mC xm102 5 = some (.if_icmp .ge 17, 3) := by decide +kernel
theorem g102_8 : mC xm102 8 = some (.aload_n 0, 1) := by decide +kernel
theorem g102_9 : mC xm102 9 = some (.getfield 18, 3) := by decide +kernel
theorem g102_12 : mC xm102 12 = some (.iload_n 1, 1) := by decide +kernel
theorem g102_13 : mC xm102 13 = some (.aload_n 0, 1) := by decide +kernel
theorem g102_14 : mC xm102 14 = some (.getfield 15, 3) := by decide +kernel
theorem g102_17 : mC xm102 17 = some (.imul, 1) := by decide +kernel
theorem g102_18 : mC xm102 18 = some (.iload_n 2, 1) := by decide +kernel
theorem g102_19 : mC xm102 19 = some (.iadd, 1) := by decide +kernel
theorem g102_20 : mC xm102 20 = some (.iload_n 3, 1) := by decide +kernel
theorem g102_21 : mC xm102 21 = some (.iastore, 1) := by decide +kernel
theorem g102_22 : mC xm102 22 = some (.return_, 1) := by decide +kernel
theorem g110_0 : mC xm110 0 = some (.iload_n 1, 1) := by decide +kernel
theorem g110_1 : mC xm110 1 = some (.ifCond .lt 27, 3) := by decide +kernel
theorem g110_4 : mC xm110 4 = some (.iload_n 1, 1) := by decide +kernel
theorem g110_5 : mC xm110 5 = some (.aload_n 0, 1) := by decide +kernel
theorem g110_6 : mC xm110 6 = some (.getfield 25, 3) := by decide +kernel
theorem g110_9 : mC xm110 9 = some (.if_icmp .ge 19, 3) := by decide +kernel
theorem g110_12 : mC xm110 12 = some (.iload_n 2, 1) := by decide +kernel
theorem g110_13 : mC xm110 13 = some (.ifCond .lt 15, 3) := by decide +kernel
theorem g110_16 : mC xm110 16 = some (.iload_n 2, 1) := by decide +kernel
theorem g110_17 : mC xm110 17 = some (.aload_n 0, 1) := by decide +kernel
theorem g110_18 : mC xm110 18 = some (.getfield 15, 3) := by decide +kernel
theorem g110_21 : mC xm110 21 = some (.if_icmp .ge 7, 3) := by decide +kernel
theorem g110_24 : mC xm110 24 = some (.iconst 1, 1) := by decide +kernel
theorem g110_25 : mC xm110 25 = some (.goto 4, 3) := by decide +kernel
theorem g110_29 : mC xm110 29 = some (.ireturn, 1) := by decide +kernel
theorem g111_0 : mC xm111 0 = some (.aload_n 0, 1) := by decide +kernel
theorem g111_1 : mC xm111 1 = some (.iload_n 1, 1) := by decide +kernel
theorem g111_2 : mC xm111 2 = some (.iload_n 2, 1) := by decide +kernel
theorem g111_3 : mC xm111 3 = some (.invokevirtual 32, 3) := by decide +kernel
theorem g111_6 : mC xm111 6 = some (.ifCond .eq 19, 3) := by decide +kernel
theorem g111_9 : mC xm111 9 = some (.aload_n 0, 1) := by decide +kernel
theorem g111_10 : mC xm111 10 = some (.getfield 18, 3) := by decide +kernel
theorem g111_13 : mC xm111 13 = some (.iload_n 1, 1) := by decide +kernel
theorem g111_14 : mC xm111 14 = some (.aload_n 0, 1) := by decide +kernel
theorem g111_15 : mC xm111 15 = some (.getfield 15, 3) := by decide +kernel
theorem g111_18 : mC xm111 18 = some (.imul, 1) := by decide +kernel
theorem g111_19 : mC xm111 19 = some (.iload_n 2, 1) := by decide +kernel
theorem g111_20 : mC xm111 20 = some (.iadd, 1) := by decide +kernel
theorem g111_21 : mC xm111 21 = some (.iaload, 1) := by decide +kernel
theorem g111_22 : mC xm111 22 = some (.goto 4, 3) := by decide +kernel
theorem g111_26 : mC xm111 26 = some (.ireturn, 1) := by decide +kernel
theorem g126_0 : mC xm126 0 = some (.iload_n 0, 1) := by decide +kernel
theorem g126_1 : mC xm126 1 = some (.iload_n 0, 1) := by decide +kernel
theorem g126_2 : mC xm126 2 = some (.iconst 1, 1) := by decide +kernel
theorem g126_3 : mC xm126 3 = some (.iushr, 1) := by decide +kernel
theorem g126_4 : mC xm126 4 = some (.ldc_w 265, 3) := by decide +kernel
theorem g126_7 : mC xm126 7 = some (.iand, 1) := by decide +kernel
theorem g126_8 : mC xm126 8 = some (.isub, 1) := by decide +kernel
theorem g126_9 : mC xm126 9 = some (.istore_n 0, 1) := by decide +kernel
theorem g126_10 : mC xm126 10 = some (.iload_n 0, 1) := by decide +kernel
theorem g126_11 : mC xm126 11 = some (.ldc_w 266, 3) := by decide +kernel
theorem g126_14 : mC xm126 14 = some (.iand, 1) := by decide +kernel
theorem g126_15 : mC xm126 15 = some (.iload_n 0, 1) := by decide +kernel
theorem g126_16 : mC xm126 16 = some (.iconst 2, 1) := by decide +kernel
theorem g126_17 : mC xm126 17 = some (.iushr, 1) := by decide +kernel
theorem g126_18 : mC xm126 18 = some (.ldc_w 266, 3) := by decide +kernel
theorem g126_21 : mC xm126 21 = some (.iand, 1) := by decide +kernel
theorem g126_22 : mC xm126 22 = some (.iadd, 1) := by decide +kernel
theorem g126_23 : mC xm126 23 = some (.istore_n 0, 1) := by decide +kernel
theorem g126_24 : mC xm126 24 = some (.iload_n 0, 1) := by decide +kernel
theorem g126_25 : mC xm126 25 = some (.iload_n 0, 1) := by decide +kernel
theorem g126_26 : mC xm126 26 = some (.iconst 4, 1) := by decide +kernel
theorem g126_27 : mC xm126 27 = some (.iushr, 1) := by decide +kernel
theorem g126_28 : mC xm126 28 = some (.iadd, 1) := by decide +kernel
theorem g126_29 : mC xm126 29 = some (.ldc_w 267, 3) := by decide +kernel
theorem g126_32 : mC xm126 32 = some (.iand, 1) := by decide +kernel
theorem g126_33 : mC xm126 33 = some (.istore_n 0, 1) := by decide +kernel
theorem g126_34 : mC xm126 34 = some (.iload_n 0, 1) := by decide +kernel
theorem g126_35 : mC xm126 35 = some (.iload_n 0, 1) := by decide +kernel
theorem g126_36 : mC xm126 36 = some (.bipush 8, 2) := by decide +kernel
theorem g126_38 : mC xm126 38 = some (.iushr, 1) := by decide +kernel
theorem g126_39 : mC xm126 39 = some (.iadd, 1) := by decide +kernel
theorem g126_40 : mC xm126 40 = some (.istore_n 0, 1) := by decide +kernel
theorem g126_41 : mC xm126 41 = some (.iload_n 0, 1) := by decide +kernel
theorem g126_42 : mC xm126 42 = some (.iload_n 0, 1) := by decide +kernel
theorem g126_43 : mC xm126 43 = some (.bipush 16, 2) := by decide +kernel
theorem g126_45 : mC xm126 45 = some (.iushr, 1) := by decide +kernel
theorem g126_46 : mC xm126 46 = some (.iadd, 1) := by decide +kernel
theorem g126_47 : mC xm126 47 = some (.istore_n 0, 1) := by decide +kernel
theorem g126_48 : mC xm126 48 = some (.iload_n 0, 1) := by decide +kernel
theorem g126_49 : mC xm126 49 = some (.bipush 63, 2) := by decide +kernel
theorem g126_51 : mC xm126 51 = some (.iand, 1) := by decide +kernel
theorem g126_52 : mC xm126 52 = some (.ireturn, 1) := by decide +kernel
theorem g137_11 : mC xm137 11 = some (.iconst 0, 1) := by decide +kernel
theorem g137_12 : mC xm137 12 = some (.istore_n 2, 1) := by decide +kernel
theorem g137_13 : mC xm137 13 = some (.iload_n 2, 1) := by decide +kernel
theorem g137_14 : mC xm137 14 = some (.aload_n 0, 1) := by decide +kernel
theorem g137_15 : mC xm137 15 = some (.getfield 72, 3) := by decide +kernel
theorem g137_18 : mC xm137 18 = some (.getfield 354, 3) := by decide +kernel
theorem g137_21 : mC xm137 21 = some (.if_icmp .ge 63, 3) := by decide +kernel
theorem g137_24 : mC xm137 24 = some (.iconst 0, 1) := by decide +kernel
theorem g137_25 : mC xm137 25 = some (.istore_n 3, 1) := by decide +kernel
theorem g137_26 : mC xm137 26 = some (.iconst 0, 1) := by decide +kernel
theorem g137_27 : mC xm137 27 = some (.istore 4, 2) := by decide +kernel
theorem g137_29 : mC xm137 29 = some (.iload 4, 2) := by decide +kernel
theorem g137_31 : mC xm137 31 = some (.aload_n 0, 1) := by decide +kernel
theorem g137_32 : mC xm137 32 = some (.getfield 75, 3) := by decide +kernel
theorem g137_35 : mC xm137 35 = some (.getfield 354, 3) := by decide +kernel
theorem g137_38 : mC xm137 38 = some (.if_icmp .ge 30, 3) := by decide +kernel
theorem g137_41 : mC xm137 41 = some (.iload_n 3, 1) := by decide +kernel
theorem g137_42 : mC xm137 42 = some (.aload_n 0, 1) := by decide +kernel
theorem g137_43 : mC xm137 43 = some (.iload_n 2, 1) := by decide +kernel
theorem g137_44 : mC xm137 44 = some (.iload 4, 2) := by decide +kernel
theorem g137_46 : mC xm137 46 = some (.invokevirtual 355, 3) := by decide +kernel
theorem g137_49 : mC xm137 49 = some (.ifCond .eq 10, 3) := by decide +kernel
theorem g137_52 : mC xm137 52 = some (.iconst 1, 1) := by decide +kernel
theorem g137_53 : mC xm137 53 = some (.iload 4, 2) := by decide +kernel
theorem g137_55 : mC xm137 55 = some (.ishl, 1) := by decide +kernel
theorem g137_56 : mC xm137 56 = some (.goto 4, 3) := by decide +kernel
theorem g137_59 : mC xm137 59 = some (.iconst 0, 1) := by decide +kernel
theorem g137_60 : mC xm137 60 = some (.ior, 1) := by decide +kernel
theorem g137_61 : mC xm137 61 = some (.istore_n 3, 1) := by decide +kernel
theorem g137_62 : mC xm137 62 = some (.iinc 4 1, 3) := by decide +kernel
theorem g137_65 : mC xm137 65 = some (.goto (-36), 3) := by decide +kernel
theorem g137_68 : mC xm137 68 = some (.aload_n 0, 1) := by decide +kernel
theorem g137_69 : mC xm137 69 = some (.getfield 72, 3) := by decide +kernel
theorem g137_72 : mC xm137 72 = some (.iload_n 2, 1) := by decide +kernel
theorem g137_73 : mC xm137 73 = some (.iconst 1, 1) := by decide +kernel
theorem g137_74 : mC xm137 74 = some (.iload_n 3, 1) := by decide +kernel
theorem g137_75 : mC xm137 75 = some (.invokevirtual 358, 3) := by decide +kernel
theorem g137_78 : mC xm137 78 = some (.iinc 2 1, 3) := by decide +kernel
theorem g137_81 : mC xm137 81 = some (.goto (-68), 3) := by decide +kernel
theorem g137_84 : mC xm137 84 = some (.aload_n 0, 1) := by decide +kernel
theorem g137_85 : mC xm137 85 = some (.iconst (-1), 1) := by decide +kernel
theorem g137_86 : mC xm137 86 = some (.invokevirtual 361, 3) := by decide +kernel
theorem g137_89 : mC xm137 89 = some (.istore_n 2, 1) := by decide +kernel
theorem g137_90 : mC xm137 90 = some (.iload_n 1, 1) := by decide +kernel
theorem g137_91 : mC xm137 91 = some (.ifCond .ne 11, 3) := by decide +kernel
theorem g137_94 : mC xm137 94 = some (.aload_n 0, 1) := by decide +kernel
theorem g137_95 : mC xm137 95 = some (.iload_n 2, 1) := by decide +kernel
theorem g137_96 : mC xm137 96 = some (.invokevirtual 364, 3) := by decide +kernel
theorem g137_99 : mC xm137 99 = some (.goto 7, 3) := by decide +kernel
theorem g137_102 : mC xm137 102 = some (.iload_n 2, 1) := by decide +kernel
theorem g137_103 : mC xm137 103 = some (.invokestatic 367, 3) := by decide +kernel
theorem g137_106 : mC xm137 106 = some (.ireturn, 1) := by decide +kernel
theorem g138_0 : mC xm138 0 = some (.iconst 0, 1) := by decide +kernel
theorem g138_1 : mC xm138 1 = some (.istore_n 2, 1) := by decide +kernel
theorem g138_2 : mC xm138 2 = some (.iconst 0, 1) := by decide +kernel
theorem g138_3 : mC xm138 3 = some (.istore_n 3, 1) := by decide +kernel
theorem g138_4 : mC xm138 4 = some (.iload_n 3, 1) := by decide +kernel
theorem g138_5 : mC xm138 5 = some (.aload_n 0, 1) := by decide +kernel
theorem g138_6 : mC xm138 6 = some (.getfield 72, 3) := by decide +kernel
theorem g138_9 : mC xm138 9 = some (.getfield 354, 3) := by decide +kernel
theorem g138_12 : mC xm138 12 = some (.if_icmp .ge 29, 3) := by decide +kernel
theorem g138_15 : mC xm138 15 = some (.iload_n 1, 1) := by decide +kernel
theorem g138_16 : mC xm138 16 = some (.iload_n 3, 1) := by decide +kernel
theorem g138_17 : mC xm138 17 = some (.invokestatic 247, 3) := by decide +kernel
theorem g138_20 : mC xm138 20 = some (.ifCond .eq 15, 3) := by decide +kernel
theorem g138_23 : mC xm138 23 = some (.iload_n 2, 1) := by decide +kernel
theorem g138_24 : mC xm138 24 = some (.aload_n 0, 1) := by decide +kernel
theorem g138_25 : mC xm138 25 = some (.getfield 72, 3) := by decide +kernel
theorem g138_28 : mC xm138 28 = some (.iload_n 3, 1) := by decide +kernel
theorem g138_29 : mC xm138 29 = some (.iconst 1, 1) := by decide +kernel
theorem g138_30 : mC xm138 30 = some (.invokevirtual 296, 3) := by decide +kernel
theorem g138_33 : mC xm138 33 = some (.ior, 1) := by decide +kernel
theorem g138_34 : mC xm138 34 = some (.istore_n 2, 1) := by decide +kernel
theorem g138_35 : mC xm138 35 = some (.iinc 3 1, 3) := by decide +kernel
theorem g138_38 : mC xm138 38 = some (.goto (-34), 3) := by decide +kernel
theorem g138_41 : mC xm138 41 = some (.iload_n 2, 1) := by decide +kernel
theorem g138_42 : mC xm138 42 = some (.ireturn, 1) := by decide +kernel
theorem g139_0 : mC xm139 0 = some (.iconst 1, 1) := by decide +kernel
theorem g139_1 : mC xm139 1 = some (.aload_n 0, 1) := by decide +kernel
theorem g139_2 : mC xm139 2 = some (.getfield 72, 3) := by decide +kernel
theorem g139_5 : mC xm139 5 = some (.getfield 354, 3) := by decide +kernel
theorem g139_8 : mC xm139 8 = some (.ishl, 1) := by decide +kernel
theorem g139_9 : mC xm139 9 = some (.iconst 1, 1) := by decide +kernel
theorem g139_10 : mC xm139 10 = some (.isub, 1) := by decide +kernel
theorem g139_11 : mC xm139 11 = some (.istore_n 2, 1) := by decide +kernel
theorem g139_12 : mC xm139 12 = some (.iload_n 2, 1) := by decide +kernel
theorem g139_13 : mC xm139 13 = some (.iconst 1, 1) := by decide +kernel
theorem g139_14 : mC xm139 14 = some (.isub, 1) := by decide +kernel
theorem g139_15 : mC xm139 15 = some (.istore_n 3, 1) := by decide +kernel
theorem g139_16 : mC xm139 16 = some (.iload_n 3, 1) := by decide +kernel
theorem g139_17 : mC xm139 17 = some (.ifCond .lt 31, 3) := by decide +kernel
theorem g139_20 : mC xm139 20 = some (.iload_n 3, 1) := by decide +kernel
theorem g139_21 : mC xm139 21 = some (.invokestatic 367, 3) := by decide +kernel
theorem g139_24 : mC xm139 24 = some (.iload_n 2, 1) := by decide +kernel
theorem g139_25 : mC xm139 25 = some (.invokestatic 367, 3) := by decide +kernel
theorem g139_28 : mC xm139 28 = some (.if_icmp .gt 14, 3) := by decide +kernel
theorem g139_31 : mC xm139 31 = some (.aload_n 0, 1) := by decide +kernel
theorem g139_32 : mC xm139 32 = some (.iload_n 3, 1) := by decide +kernel
theorem g139_33 : mC xm139 33 = some (.invokevirtual 361, 3) := by decide +kernel
theorem g139_36 : mC xm139 36 = some (.iload_n 1, 1) := by decide +kernel
theorem g139_37 : mC xm139 37 = some (.if_icmp .ne 5, 3) := by decide +kernel
theorem g139_40 : mC xm139 40 = some (.iload_n 3, 1) := by decide +kernel
theorem g139_41 : mC xm139 41 = some (.istore_n 2, 1) := by decide +kernel
theorem g139_42 : mC xm139 42 = some (.iinc 3 (-1), 3) := by decide +kernel
theorem g139_45 : mC xm139 45 = some (.goto (-29), 3) := by decide +kernel
theorem g139_48 : mC xm139 48 = some (.iload_n 2, 1) := by decide +kernel
theorem g139_49 : mC xm139 49 = some (.ireturn, 1) := by decide +kernel
theorem g249_11 : mC xm249 11 = some (.bipush 8, 2) := by decide +kernel
theorem g249_13 : mC xm249 13 = some (.newarray .int, 2) := by decide +kernel
theorem g249_15 : mC xm249 15 = some (.astore_n 2, 1) := by decide +kernel
theorem g249_16 : mC xm249 16 = some (.iconst 0, 1) := by decide +kernel
theorem g249_17 : mC xm249 17 = some (.istore_n 3, 1) := by decide +kernel
theorem g249_18 : mC xm249 18 = some (.iconst 0, 1) := by decide +kernel
theorem g249_19 : mC xm249 19 = some (.istore 4, 2) := by decide +kernel
theorem g249_21 : mC xm249 21 = some (.iload 4, 2) := by decide +kernel
theorem g249_23 : mC xm249 23 = some (.aload_n 0, 1) := by decide +kernel
theorem g249_24 : mC xm249 24 = some (.getfield 399, 3) := by decide +kernel
theorem g249_27 : mC xm249 27 = some (.if_icmp .ge 60, 3) := by decide +kernel
theorem g249_30 : mC xm249 30 = some (.iconst 0, 1) := by decide +kernel
theorem g249_31 : mC xm249 31 = some (.istore 5, 2) := by decide +kernel
theorem g249_33 : mC xm249 33 = some (.iload 5, 2) := by decide +kernel
theorem g249_35 : mC xm249 35 = some (.aload_n 0, 1) := by decide +kernel
theorem g249_36 : mC xm249 36 = some (.getfield 402, 3) := by decide +kernel
theorem g249_39 : mC xm249 39 = some (.if_icmp .ge 35, 3) := by decide +kernel
theorem g249_42 : mC xm249 42 = some (.aload_n 2, 1) := by decide +kernel
theorem g249_43 : mC xm249 43 = some (.iload 4, 2) := by decide +kernel
theorem g249_45 : mC xm249 45 = some (.dup2, 1) := by decide +kernel
theorem g249_46 : mC xm249 46 = some (.iaload, 1) := by decide +kernel
theorem g249_47 : mC xm249 47 = some (.aload_n 0, 1) := by decide +kernel
theorem g249_48 : mC xm249 48 = some (.iload 4, 2) := by decide +kernel
theorem g249_50 : mC xm249 50 = some (.iload 5, 2) := by decide +kernel
theorem g249_52 : mC xm249 52 = some (.invokevirtual 405, 3) := by decide +kernel
theorem g249_55 : mC xm249 55 = some (.ifCond .eq 10, 3) := by decide +kernel
theorem g249_58 : mC xm249 58 = some (.iconst 1, 1) := by decide +kernel
theorem g249_59 : mC xm249 59 = some (.iload 5, 2) := by decide +kernel
theorem g249_61 : mC xm249 61 = some (.ishl, 1) := by decide +kernel
theorem g249_62 : mC xm249 62 = some (.goto 4, 3) := by decide +kernel
theorem g249_65 : mC xm249 65 = some (.iconst 0, 1) := by decide +kernel
theorem g249_66 : mC xm249 66 = some (.ior, 1) := by decide +kernel
theorem g249_67 : mC xm249 67 = some (.iastore, 1) := by decide +kernel
theorem g249_68 : mC xm249 68 = some (.iinc 5 1, 3) := by decide +kernel
theorem g249_71 : mC xm249 71 = some (.goto (-38), 3) := by decide +kernel
theorem g249_74 : mC xm249 74 = some (.iload_n 3, 1) := by decide +kernel
theorem g249_75 : mC xm249 75 = some (.aload_n 2, 1) := by decide +kernel
theorem g249_76 : mC xm249 76 = some (.iload 4, 2) := by decide +kernel
theorem g249_78 : mC xm249 78 = some (.iaload, 1) := by decide +kernel
theorem g249_79 : mC xm249 79 = some (.ior, 1) := by decide +kernel
theorem g249_80 : mC xm249 80 = some (.istore_n 3, 1) := by decide +kernel
theorem g249_81 : mC xm249 81 = some (.iinc 4 1, 3) := by decide +kernel
theorem g249_84 : mC xm249 84 = some (.goto (-63), 3) := by decide +kernel
theorem g249_87 : mC xm249 87 = some (.iconst 1, 1) := by decide +kernel
theorem g249_88 : mC xm249 88 = some (.aload_n 0, 1) := by decide +kernel
theorem g249_89 : mC xm249 89 = some (.getfield 399, 3) := by decide +kernel
theorem g249_92 : mC xm249 92 = some (.ishl, 1) := by decide +kernel
theorem g249_93 : mC xm249 93 = some (.iconst 1, 1) := by decide +kernel
theorem g249_94 : mC xm249 94 = some (.isub, 1) := by decide +kernel
theorem g249_95 : mC xm249 95 = some (.istore 4, 2) := by decide +kernel
theorem g249_97 : mC xm249 97 = some (.iconst 0, 1) := by decide +kernel
theorem g249_98 : mC xm249 98 = some (.istore 5, 2) := by decide +kernel
theorem g249_100 : mC xm249 100 = some (.iload 5, 2) := by decide +kernel
theorem g249_102 : mC xm249 102 = some (.iconst 1, 1) := by decide +kernel
theorem g249_103 : mC xm249 103 = some (.aload_n 0, 1) := by decide +kernel
theorem g249_104 : mC xm249 104 = some (.getfield 399, 3) := by decide +kernel
theorem g249_107 : mC xm249 107 = some (.ishl, 1) := by decide +kernel
theorem g249_108 : mC xm249 108 = some (.if_icmp .ge 99, 3) := by decide +kernel
theorem g249_111 : mC xm249 111 = some (.iconst 0, 1) := by decide +kernel
theorem g249_112 : mC xm249 112 = some (.istore 6, 2) := by decide +kernel
theorem g249_114 : mC xm249 114 = some (.iconst 0, 1) := by decide +kernel
theorem g249_115 : mC xm249 115 = some (.istore 7, 2) := by decide +kernel
theorem g249_117 : mC xm249 117 = some (.iload 7, 2) := by decide +kernel
theorem g249_119 : mC xm249 119 = some (.aload_n 0, 1) := by decide +kernel
theorem g249_120 : mC xm249 120 = some (.getfield 399, 3) := by decide +kernel
theorem g249_123 : mC xm249 123 = some (.if_icmp .ge 33, 3) := by decide +kernel
theorem g249_126 : mC xm249 126 = some (.iload 6, 2) := by decide +kernel
theorem g249_128 : mC xm249 128 = some (.iload 5, 2) := by decide +kernel
theorem g249_130 : mC xm249 130 = some (.iload 7, 2) := by decide +kernel
theorem g249_132 : mC xm249 132 = some (.ishr, 1) := by decide +kernel
theorem g249_133 : mC xm249 133 = some (.iconst 1, 1) := by decide +kernel
theorem g249_134 : mC xm249 134 = some (.iand, 1) := by decide +kernel
theorem g249_135 : mC xm249 135 = some (.iconst 1, 1) := by decide +kernel
theorem g249_136 : mC xm249 136 = some (.if_icmp .ne 10, 3) := by decide +kernel
theorem g249_139 : mC xm249 139 = some (.aload_n 2, 1) := by decide +kernel
theorem g249_140 : mC xm249 140 = some (.iload 7, 2) := by decide +kernel
theorem g249_142 : mC xm249 142 = some (.iaload, 1) := by decide +kernel
theorem g249_143 : mC xm249 143 = some (.goto 4, 3) := by decide +kernel
theorem g249_146 : mC xm249 146 = some (.iconst 0, 1) := by decide +kernel
theorem g249_147 : mC xm249 147 = some (.ior, 1) := by decide +kernel
theorem g249_148 : mC xm249 148 = some (.istore 6, 2) := by decide +kernel
theorem g249_150 : mC xm249 150 = some (.iinc 7 1, 3) := by decide +kernel
theorem g249_153 : mC xm249 153 = some (.goto (-36), 3) := by decide +kernel
theorem g249_156 : mC xm249 156 = some (.iload 5, 2) := by decide +kernel
theorem g249_158 : mC xm249 158 = some (.invokestatic 343, 3) := by decide +kernel
theorem g249_161 : mC xm249 161 = some (.istore 7, 2) := by decide +kernel
theorem g249_163 : mC xm249 163 = some (.iload 4, 2) := by decide +kernel
theorem g249_165 : mC xm249 165 = some (.invokestatic 343, 3) := by decide +kernel
theorem g249_168 : mC xm249 168 = some (.istore 8, 2) := by decide +kernel
theorem g249_170 : mC xm249 170 = some (.iload 6, 2) := by decide +kernel
theorem g249_172 : mC xm249 172 = some (.iload_n 3, 1) := by decide +kernel
theorem g249_173 : mC xm249 173 = some (.if_icmp .ne 28, 3) := by decide +kernel
theorem g249_176 : mC xm249 176 = some (.iload 7, 2) := by decide +kernel
theorem g249_178 : mC xm249 178 = some (.iload 8, 2) := by decide +kernel
theorem g249_180 : mC xm249 180 = some (.if_icmp .lt 17, 3) := by decide +kernel
theorem g249_183 : mC xm249 183 = some (.iload 7, 2) := by decide +kernel
theorem g249_185 : mC xm249 185 = some (.iload 8, 2) := by decide +kernel
theorem g249_187 : mC xm249 187 = some (.if_icmp .ne 14, 3) := by decide +kernel
theorem g249_190 : mC xm249 190 = some (.iload 5, 2) := by decide +kernel
theorem g249_192 : mC xm249 192 = some (.iload 4, 2) := by decide +kernel
theorem g249_194 : mC xm249 194 = some (.if_icmp .ge 7, 3) := by decide +kernel
theorem g249_197 : mC xm249 197 = some (.iload 5, 2) := by decide +kernel
theorem g249_199 : mC xm249 199 = some (.istore 4, 2) := by decide +kernel
theorem g249_201 : mC xm249 201 = some (.iinc 5 1, 3) := by decide +kernel
theorem g249_204 : mC xm249 204 = some (.goto (-104), 3) := by decide +kernel
theorem g249_207 : mC xm249 207 = some (.iload_n 1, 1) := by decide +kernel
theorem g249_208 : mC xm249 208 = some (.ifCond .ne 8, 3) := by decide +kernel
theorem g249_211 : mC xm249 211 = some (.iload 4, 2) := by decide +kernel
theorem g249_213 : mC xm249 213 = some (.goto 7, 3) := by decide +kernel
theorem g249_216 : mC xm249 216 = some (.iload_n 3, 1) := by decide +kernel
theorem g249_217 : mC xm249 217 = some (.invokestatic 343, 3) := by decide +kernel
theorem g249_220 : mC xm249 220 = some (.ireturn, 1) := by decide +kernel
end XH31
