/-! p33: the instructions on the ways. -/
noncomputable section XH33
set_option maxRecDepth 1000000 in
theorem g_q35 : tMth x_tb 35 = some xm35 := rfl
set_option maxRecDepth 1000000 in
theorem g_q42 : tMth x_tb 42 = some xm42 := rfl
set_option maxRecDepth 1000000 in
theorem g_q48 : tMth x_tb 48 = some xm48 := rfl
set_option maxRecDepth 1000000 in
theorem g_q58 : tMth x_tb 58 = some xm58 := rfl
set_option maxRecDepth 1000000 in
theorem g_q61 : tMth x_tb 61 = some xm61 := rfl
set_option maxRecDepth 1000000 in
theorem g_q63 : tMth x_tb 63 = some xm63 := rfl
set_option maxRecDepth 1000000 in
theorem g_q66 : tMth x_tb 66 = some xm66 := rfl
set_option maxRecDepth 1000000 in
theorem g_q68 : tMth x_tb 68 = some xm68 := rfl
set_option maxRecDepth 1000000 in
theorem g_q69 : tMth x_tb 69 = some xm69 := rfl
set_option maxRecDepth 1000000 in
theorem g_q70 : tMth x_tb 70 = some xm70 := rfl
set_option maxRecDepth 1000000 in
theorem g_q71 : tMth x_tb 71 = some xm71 := rfl
set_option maxRecDepth 1000000 in
theorem g_q72 : tMth x_tb 72 = some xm72 := rfl
set_option maxRecDepth 1000000 in
theorem g_q73 : tMth x_tb 73 = some xm73 := rfl
set_option maxRecDepth 1000000 in
theorem g_q74 : tMth x_tb 74 = some xm74 := rfl
set_option maxRecDepth 1000000 in
theorem g_q75 : tMth x_tb 75 = some xm75 := rfl
set_option maxRecDepth 1000000 in
theorem g_q76 : tMth x_tb 76 = some xm76 := rfl
set_option maxRecDepth 1000000 in
theorem g_q77 : tMth x_tb 77 = some xm77 := rfl
set_option maxRecDepth 1000000 in
theorem g_q79 : tMth x_tb 79 = some xm79 := rfl
set_option maxRecDepth 1000000 in
theorem g_q80 : tMth x_tb 80 = some xm80 := rfl
set_option maxRecDepth 1000000 in
theorem g_q81 : tMth x_tb 81 = some xm81 := rfl
set_option maxRecDepth 1000000 in
theorem g_q83 : tMth x_tb 83 = some xm83 := rfl
set_option maxRecDepth 1000000 in
theorem g_q116 : tMth x_tb 116 = some xm116 := rfl
set_option maxRecDepth 1000000 in
theorem g_q141 : tMth x_tb 141 = some xm141 := rfl
set_option maxRecDepth 1000000 in
theorem g_q142 : tMth x_tb 142 = some xm142 := rfl
set_option maxRecDepth 1000000 in
theorem g_q144 : tMth x_tb 144 = some xm144 := rfl
set_option maxRecDepth 1000000 in
theorem g_q146 : tMth x_tb 146 = some xm146 := rfl
set_option maxRecDepth 1000000 in
theorem g_q181 : tMth x_tb 181 = some xm181 := rfl
set_option maxRecDepth 1000000 in
theorem g_q196 : tMth x_tb 196 = some xm196 := rfl
set_option maxRecDepth 1000000 in
theorem g_q197 : tMth x_tb 197 = some xm197 := rfl
set_option maxRecDepth 1000000 in
theorem g_q199 : tMth x_tb 199 = some xm199 := rfl
set_option maxRecDepth 1000000 in
theorem g_q202 : tMth x_tb 202 = some xm202 := rfl
set_option maxRecDepth 1000000 in
theorem g_q203 : tMth x_tb 203 = some xm203 := rfl
set_option maxRecDepth 1000000 in
theorem g_q204 : tMth x_tb 204 = some xm204 := rfl
set_option maxRecDepth 1000000 in
theorem g_q205 : tMth x_tb 205 = some xm205 := rfl
set_option maxRecDepth 1000000 in
theorem g_q206 : tMth x_tb 206 = some xm206 := rfl
set_option maxRecDepth 1000000 in
theorem g_q207 : tMth x_tb 207 = some xm207 := rfl
set_option maxRecDepth 1000000 in
theorem g_q208 : tMth x_tb 208 = some xm208 := rfl
set_option maxRecDepth 1000000 in
theorem g_q209 : tMth x_tb 209 = some xm209 := rfl
set_option maxRecDepth 1000000 in
theorem g_q210 : tMth x_tb 210 = some xm210 := rfl
set_option maxRecDepth 1000000 in
theorem g_q211 : tMth x_tb 211 = some xm211 := rfl
set_option maxRecDepth 1000000 in
theorem g_q220 : tMth x_tb 220 = some xm220 := rfl
set_option maxRecDepth 1000000 in
theorem g_q221 : tMth x_tb 221 = some xm221 := rfl
set_option maxRecDepth 1000000 in
theorem g_q222 : tMth x_tb 222 = some xm222 := rfl
theorem g35_0 : mC xm35 0 = some (.iload_n 0, 1) := by decide +kernel
theorem g35_1 : mC xm35 1 = some (.iload_n 1, 1) := by decide +kernel
theorem g35_2 : mC xm35 2 = some (.if_icmp .lt 12, 3) := by decide +kernel
theorem g35_5 : mC xm35 5 = some (.iload_n 0, 1) := by decide +kernel
theorem g35_6 : mC xm35 6 = some (.iload_n 2, 1) := by decide +kernel
theorem g35_7 : mC xm35 7 = some (.if_icmp .gt 7, 3) := by decide +kernel
theorem g35_10 : mC xm35 10 = some (.iconst 1, 1) := by decide +kernel
theorem g35_11 : mC xm35 11 = some (.goto 4, 3) := by decide +kernel
theorem g35_14 : mC xm35 14 = some (.iconst 0, 1) := by decide +kernel
theorem g35_15 : mC xm35 15 = some (.ireturn, 1) := by decide +kernel
theorem g42_0 : mC xm42 0 = some (.iload_n 1, 1) := by decide +kernel
theorem g42_1 : mC xm42 1 = some (.ifCond .lt 20, 3) := by decide +kernel
theorem g42_4 : mC xm42 4 = some (.iload_n 1, 1) := by decide +kernel
theorem g42_5 : mC xm42 5 = some (.aload_n 0, 1) := by decide +kernel
theorem g42_6 : mC xm42 6 = some (.getfield 107, 3) := by decide +kernel
theorem g42_9 : mC xm42 9 = some (.if_icmp .ge 12, 3) := by decide +kernel
theorem g42_12 : mC xm42 12 = some (.aload_n 0, 1) := by decide +kernel
theorem g42_13 : mC xm42 13 = some (.getfield 25, 3) := by decide +kernel
theorem g42_16 : mC xm42 16 = some (.iload_n 1, 1) := by decide +kernel
theorem g42_17 : mC xm42 17 = some (.aaload, 1) := by decide +kernel
theorem g42_18 : mC xm42 18 = some (.goto 4, 3) := by decide +kernel
theorem g42_21 : mC xm42 21 = some (.aconst_null, 1) := by decide +kernel
theorem g42_22 : mC xm42 22 = some (.areturn, 1) := by decide +kernel
theorem g48_0 : mC xm48 0 = some (.iload_n 1, 1) := by decide +kernel
theorem g48_1 : mC xm48 1 = some (.ifCond .lt 22, 3) := by decide +kernel
theorem g48_4 : mC xm48 4 = some (.iload_n 1, 1) := by decide +kernel
theorem g48_5 : mC xm48 5 = some (.bipush 32, 2) := by decide +kernel
theorem g48_7 : mC xm48 7 = some (.if_icmp .ge 16, 3) := by decide +kernel
theorem g48_10 : mC xm48 10 = some (.iload_n 0, 1) := by decide +kernel
theorem g48_11 : mC xm48 11 = some (.iload_n 1, 1) := by decide +kernel
theorem g48_12 : mC xm48 12 = some (.ishr, 1) := by decide +kernel
theorem g48_13 : mC xm48 13 = some (.iconst 1, 1) := by decide +kernel
theorem g48_14 : mC xm48 14 = some (.iand, 1) := by decide +kernel
theorem g48_15 : mC xm48 15 = some (.iconst 1, 1) := by decide +kernel
theorem g48_16 : mC xm48 16 = some (.if_icmp .ne 7, 3) := by decide +kernel
theorem g48_19 : mC xm48 19 = some (.iconst 1, 1) := by decide +kernel
theorem g48_20 : mC xm48 20 = some (.goto 4, 3) := by decide +kernel
theorem g48_23 : mC xm48 23 = some (.iconst 0, 1) := by decide +kernel
theorem g48_24 : mC xm48 24 = some (.ireturn, 1) := by decide +kernel
theorem g58_0 : mC xm58 0 = some (.aload_n 0, 1) := by decide +kernel
theorem g58_1 : mC xm58 1 = some (.iconst 0, 1) := by decide +kernel
theorem g58_2 : mC xm58 2 = some (.putfield 13, 3) := by decide +kernel
theorem g58_5 : mC xm58 5 = some (.return_, 1) := by decide +kernel
theorem g61_0 : mC xm61 0 = some (.aload_n 0, 1) := by decide +kernel
theorem g61_1 : mC xm61 1 = some (.getfield 13, 3) := by decide +kernel
theorem g61_4 : mC xm61 4 = some (.bipush 12, 2) := by decide +kernel
theorem g61_6 : mC xm61 6 = some (.if_icmp .lt 5, 3) := by decide +kernel
theorem g61_9 : mC xm61 9 = some (.iconst 0, 1) := by decide +kernel
theorem g61_10 : mC xm61 10 = some (.ireturn, 1) := by decide +kernel
theorem g61_11 : mC xm61 11 = some (.aload_n 0, 1) := by decide +kernel
theorem g61_12 : mC xm61 12 = some (.getfield 9, 3) := by decide +kernel
theorem g61_15 : mC xm61 15 = some (.aload_n 0, 1) := by decide +kernel
theorem g61_16 : mC xm61 16 = some (.getfield 13, 3) := by decide +kernel
theorem g61_19 : mC xm61 19 = some (.iload_n 1, 1) := by decide +kernel
theorem g61_20 : mC xm61 20 = some (.iastore, 1) := by decide +kernel
theorem g61_21 : mC xm61 21 = some (.aload_n 0, 1) := by decide +kernel
theorem g61_22 : mC xm61 22 = some (.dup, 1) := by decide +kernel
theorem g61_23 : mC xm61 23 = some (.getfield 13, 3) := by decide +kernel
theorem g61_26 : mC xm61 26 = some (.iconst 1, 1) := by decide +kernel
theorem g61_27 : mC xm61 27 = some (.iadd, 1) := by decide +kernel
theorem g61_28 : mC xm61 28 = some (.putfield 13, 3) := by decide +kernel
theorem g61_31 : mC xm61 31 = some (.iconst 1, 1) := by decide +kernel
theorem g61_32 : mC xm61 32 = some (.ireturn, 1) := by decide +kernel
theorem g63_0 : mC xm63 0 = some (.iload_n 0, 1) := by decide +kernel
theorem g63_1 : mC xm63 1 = some (.sipush 1900, 3) := by decide +kernel
theorem g63_4 : mC xm63 4 = some (.sipush 2099, 3) := by decide +kernel
theorem g63_7 : mC xm63 7 = some (.invokestatic 178, 3) := by decide +kernel
theorem g63_10 : mC xm63 10 = some (.ireturn, 1) := by decide +kernel
theorem g66_0 : mC xm66 0 = some (.aload_n 0, 1) := by decide +kernel
theorem g66_1 : mC xm66 1 = some (.aload_n 1, 1) := by decide +kernel
theorem g66_2 : mC xm66 2 = some (.putfield 25, 3) := by decide +kernel
theorem g66_5 : mC xm66 5 = some (.aload_n 0, 1) := by decide +kernel
theorem g66_6 : mC xm66 6 = some (.aload_n 2, 1) := by decide +kernel
theorem g66_7 : mC xm66 7 = some (.putfield 34, 3) := by decide +kernel
theorem g66_10 : mC xm66 10 = some (.aload_n 0, 1) := by decide +kernel
theorem g66_11 : mC xm66 11 = some (.aload_n 3, 1) := by decide +kernel
theorem g66_12 : mC xm66 12 = some (.putfield 38, 3) := by decide +kernel
theorem g66_15 : mC xm66 15 = some (.aload_n 0, 1) := by decide +kernel
theorem g66_16 : mC xm66 16 = some (.aload 4, 2) := by decide +kernel
theorem g66_18 : mC xm66 18 = some (.putfield 41, 3) := by decide +kernel
theorem g66_21 : mC xm66 21 = some (.aload_n 0, 1) := by decide +kernel
theorem g66_22 : mC xm66 22 = some (.iload 5, 2) := by decide +kernel
theorem g66_24 : mC xm66 24 = some (.putfield 48, 3) := by decide +kernel
theorem g66_27 : mC xm66 27 = some (.aload_n 0, 1) := by decide +kernel
theorem g66_28 : mC xm66 28 = some (.iconst 0, 1) := by decide +kernel
theorem g66_29 : mC xm66 29 = some (.putfield 51, 3) := by decide +kernel
theorem g66_32 : mC xm66 32 = some (.aload_n 0, 1) := by decide +kernel
theorem g66_33 : mC xm66 33 = some (.iconst 0, 1) := by decide +kernel
theorem g66_34 : mC xm66 34 = some (.putfield 54, 3) := by decide +kernel
theorem g66_37 : mC xm66 37 = some (.aload_n 0, 1) := by decide +kernel
theorem g66_38 : mC xm66 38 = some (.iconst 0, 1) := by decide +kernel
theorem g66_39 : mC xm66 39 = some (.putfield 57, 3) := by decide +kernel
theorem g66_42 : mC xm66 42 = some (.aload_n 0, 1) := by decide +kernel
theorem g66_43 : mC xm66 43 = some (.aload_n 0, 1) := by decide +kernel
theorem g66_44 : mC xm66 44 = some (.getfield 25, 3) := by decide +kernel
theorem g66_47 : mC xm66 47 = some (.getfield 60, 3) := by decide +kernel
theorem g66_50 : mC xm66 50 = some (.ifCond .le 7, 3) := by decide +kernel
theorem g66_53 : mC xm66 53 = some (.iconst (-1), 1) := by decide +kernel
theorem g66_54 : mC xm66 54 = some (.goto 4, 3) := by decide +kernel
theorem g66_58 : mC xm66 58 = some (.putfield 44, 3) := by decide +kernel
theorem g66_61 : mC xm66 61 = some (.aload_n 0, 1) := by decide +kernel
theorem g66_62 : mC xm66 62 = some (.getfield 41, 3) := by decide +kernel
theorem g66_65 : mC xm66 65 = some (.invokevirtual 63, 3) := by decide +kernel
theorem g66_68 : mC xm66 68 = some (.iconst 0, 1) := by decide +kernel
theorem g66_69 : mC xm66 69 = some (.istore 6, 2) := by decide +kernel
theorem g66_71 : mC xm66 71 = some (.iload 6, 2) := by decide +kernel
theorem g66_73 : mC xm66 73 = some (.bipush 6, 2) := by decide +kernel
theorem g66_75 : mC xm66 75 = some (.if_icmp .ge 17, 3) := by decide +kernel
theorem g66_78 : mC xm66 78 = some (.aload_n 0, 1) := by decide +kernel
theorem g66_79 : mC xm66 79 = some (.getfield 9, 3) := by decide +kernel
theorem g66_82 : mC xm66 82 = some (.iload 6, 2) := by decide +kernel
theorem g66_84 : mC xm66 84 = some (.iconst 0, 1) := by decide +kernel
theorem g66_85 : mC xm66 85 = some (.iastore, 1) := by decide +kernel
theorem g66_86 : mC xm66 86 = some (.iinc 6 1, 3) := by decide +kernel
theorem g66_89 : mC xm66 89 = some (.goto (-18), 3) := by decide +kernel
theorem g66_92 : mC xm66 92 = some (.return_, 1) := by decide +kernel
theorem g68_0 : mC xm68 0 = some (.aload_n 0, 1) := by decide +kernel
theorem g68_1 : mC xm68 1 = some (.getfield 44, 3) := by decide +kernel
theorem g68_4 : mC xm68 4 = some (.iconst (-1), 1) := by decide +kernel
theorem g68_5 : mC xm68 5 = some (.if_icmp .eq 7, 3) := by decide +kernel
theorem g68_8 : mC xm68 8 = some (.iconst 1, 1) := by decide +kernel
theorem g68_9 : mC xm68 9 = some (.goto 4, 3) := by decide +kernel
theorem g68_12 : mC xm68 12 = some (.iconst 0, 1) := by decide +kernel
theorem g68_13 : mC xm68 13 = some (.ireturn, 1) := by decide +kernel
theorem g69_0 : mC xm69 0 = some (.aload_n 0, 1) := by decide +kernel
theorem g69_1 : mC xm69 1 = some (.iconst 0, 1) := by decide +kernel
theorem g69_2 : mC xm69 2 = some (.putfield 73, 3) := by decide +kernel
theorem g69_5 : mC xm69 5 = some (.aload_n 0, 1) := by decide +kernel
theorem g69_6 : mC xm69 6 = some (.invokevirtual 66, 3) := by decide +kernel
theorem g69_9 : mC xm69 9 = some (.ifCond .eq 4, 3) := by decide +kernel
theorem g69_13 : mC xm69 13 = some (.aload_n 0, 1) := by decide +kernel
theorem g69_14 : mC xm69 14 = some (.dup, 1) := by decide +kernel
theorem g69_15 : mC xm69 15 = some (.getfield 57, 3) := by decide +kernel
theorem g69_18 : mC xm69 18 = some (.iconst 1, 1) := by decide +kernel
theorem g69_19 : mC xm69 19 = some (.iadd, 1) := by decide +kernel
theorem g69_20 : mC xm69 20 = some (.putfield 57, 3) := by decide +kernel
theorem g69_23 : mC xm69 23 = some (.aload_n 0, 1) := by decide +kernel
theorem g69_24 : mC xm69 24 = some (.getfield 25, 3) := by decide +kernel
theorem g69_27 : mC xm69 27 = some (.getfield 77, 3) := by decide +kernel
theorem g69_30 : mC xm69 30 = some (.aload_n 0, 1) := by decide +kernel
theorem g69_31 : mC xm69 31 = some (.getfield 51, 3) := by decide +kernel
theorem g69_34 : mC xm69 34 = some (.iaload, 1) := by decide +kernel
theorem g69_35 : mC xm69 35 = some (.istore_n 1, 1) := by decide +kernel
theorem g69_36 : mC xm69 36 = some (.aload_n 0, 1) := by decide +kernel
theorem g69_37 : mC xm69 37 = some (.getfield 25, 3) := by decide +kernel
theorem g69_40 : mC xm69 40 = some (.getfield 80, 3) := by decide +kernel
theorem g69_43 : mC xm69 43 = some (.aload_n 0, 1) := by decide +kernel
theorem g69_44 : mC xm69 44 = some (.getfield 51, 3) := by decide +kernel
theorem g69_47 : mC xm69 47 = some (.iaload, 1) := by decide +kernel
theorem g69_48 : mC xm69 48 = some (.istore_n 2, 1) := by decide +kernel
theorem g69_49 : mC xm69 49 = some (.aload_n 0, 1) := by decide +kernel
theorem g69_50 : mC xm69 50 = some (.getfield 25, 3) := by decide +kernel
theorem g69_53 : mC xm69 53 = some (.getfield 83, 3) := by decide +kernel
theorem g69_56 : mC xm69 56 = some (.aload_n 0, 1) := by decide +kernel
theorem g69_57 : mC xm69 57 = some (.getfield 51, 3) := by decide +kernel
theorem g69_60 : mC xm69 60 = some (.iaload, 1) := by decide +kernel
theorem g69_61 : mC xm69 61 = some (.istore_n 3, 1) := by decide +kernel
theorem g69_62 : mC xm69 62 = some (.aload_n 0, 1) := by decide +kernel
theorem g69_63 : mC xm69 63 = some (.getfield 51, 3) := by decide +kernel
theorem g69_66 : mC xm69 66 = some (.iconst 1, 1) := by decide +kernel
theorem g69_67 : mC xm69 67 = some (.iadd, 1) := by decide +kernel
theorem g69_68 : mC xm69 68 = some (.istore 4, 2) := by decide +kernel
theorem g69_70 : mC xm69 70 = some (.aload_n 0, 1) := by decide +kernel
theorem g69_71 : mC xm69 71 = some (.getfield 25, 3) := by decide +kernel
theorem g69_74 : mC xm69 74 = some (.getfield 84, 3) := by decide +kernel
theorem g69_77 : mC xm69 77 = some (.aload_n 0, 1) := by decide +kernel
theorem g69_78 : mC xm69 78 = some (.getfield 51, 3) := by decide +kernel
theorem g69_81 : mC xm69 81 = some (.iaload, 1) := by decide +kernel
theorem g69_82 : mC xm69 82 = some (.tableswitch (280) (0) (11) #[(62), (83), (91), (99), (117), (140), (170), (200), (248), (274), (280), (224)], 62) := by decide +kernel
theorem g69_144 : mC xm69 144 = some (.aload_n 0, 1) := by decide +kernel
theorem g69_145 : mC xm69 145 = some (.getfield 9, 3) := by decide +kernel
theorem g69_148 : mC xm69 148 = some (.iload_n 1, 1) := by decide +kernel
theorem g69_149 : mC xm69 149 = some (.aload_n 0, 1) := by decide +kernel
theorem g69_150 : mC xm69 150 = some (.getfield 34, 3) := by decide +kernel
theorem g69_153 : mC xm69 153 = some (.iload_n 1, 1) := by decide +kernel
theorem g69_154 : mC xm69 154 = some (.aload_n 0, 1) := by decide +kernel
theorem g69_155 : mC xm69 155 = some (.getfield 48, 3) := by decide +kernel
theorem g69_158 : mC xm69 158 = some (.invokevirtual 87, 3) := by decide +kernel
theorem g69_161 : mC xm69 161 = some (.iastore, 1) := by decide +kernel
theorem g69_162 : mC xm69 162 = some (.goto 205, 3) := by decide +kernel
theorem g69_165 : mC xm69 165 = some (.aload_n 0, 1) := by decide +kernel
theorem g69_166 : mC xm69 166 = some (.iload_n 1, 1) := by decide +kernel
theorem g69_167 : mC xm69 167 = some (.invokevirtual 91, 3) := by decide +kernel
theorem g69_170 : mC xm69 170 = some (.goto 197, 3) := by decide +kernel
theorem g69_173 : mC xm69 173 = some (.aload_n 0, 1) := by decide +kernel
theorem g69_174 : mC xm69 174 = some (.iload_n 1, 1) := by decide +kernel
theorem g69_175 : mC xm69 175 = some (.invokevirtual 95, 3) := by decide +kernel
theorem g69_178 : mC xm69 178 = some (.goto 189, 3) := by decide +kernel
theorem g69_181 : mC xm69 181 = some (.aload_n 0, 1) := by decide +kernel
theorem g69_182 : mC xm69 182 = some (.getfield 9, 3) := by decide +kernel
theorem g69_185 : mC xm69 185 = some (.iload_n 1, 1) := by decide +kernel
theorem g69_186 : mC xm69 186 = some (.aload_n 0, 1) := by decide +kernel
theorem g69_187 : mC xm69 187 = some (.getfield 34, 3) := by decide +kernel
theorem g69_190 : mC xm69 190 = some (.iload_n 1, 1) := by decide +kernel
theorem g69_191 : mC xm69 191 = some (.iload_n 3, 1) := by decide +kernel
theorem g69_192 : mC xm69 192 = some (.invokevirtual 87, 3) := by decide +kernel
theorem g69_195 : mC xm69 195 = some (.iastore, 1) := by decide +kernel
theorem g69_196 : mC xm69 196 = some (.goto 171, 3) := by decide +kernel
theorem g69_199 : mC xm69 199 = some (.aload_n 0, 1) := by decide +kernel
theorem g69_200 : mC xm69 200 = some (.getfield 9, 3) := by decide +kernel
theorem g69_203 : mC xm69 203 = some (.iload_n 1, 1) := by decide +kernel
theorem g69_204 : mC xm69 204 = some (.aload_n 0, 1) := by decide +kernel
theorem g69_205 : mC xm69 205 = some (.getfield 34, 3) := by decide +kernel
theorem g69_208 : mC xm69 208 = some (.iload_n 1, 1) := by decide +kernel
theorem g69_209 : mC xm69 209 = some (.aload_n 0, 1) := by decide +kernel
theorem g69_210 : mC xm69 210 = some (.getfield 9, 3) := by decide +kernel
theorem g69_213 : mC xm69 213 = some (.iload_n 2, 1) := by decide +kernel
theorem g69_214 : mC xm69 214 = some (.iaload, 1) := by decide +kernel
theorem g69_215 : mC xm69 215 = some (.invokevirtual 87, 3) := by decide +kernel
theorem g69_218 : mC xm69 218 = some (.iastore, 1) := by decide +kernel
theorem g69_219 : mC xm69 219 = some (.goto 148, 3) := by decide +kernel
theorem g69_222 : mC xm69 222 = some (.aload_n 0, 1) := by decide +kernel
theorem g69_223 : mC xm69 223 = some (.getfield 9, 3) := by decide +kernel
theorem g69_226 : mC xm69 226 = some (.iload_n 1, 1) := by decide +kernel
theorem g69_227 : mC xm69 227 = some (.aload_n 0, 1) := by decide +kernel
theorem g69_228 : mC xm69 228 = some (.getfield 34, 3) := by decide +kernel
theorem g69_231 : mC xm69 231 = some (.iload_n 1, 1) := by decide +kernel
theorem g69_232 : mC xm69 232 = some (.aload_n 0, 1) := by decide +kernel
theorem g69_233 : mC xm69 233 = some (.getfield 9, 3) := by decide +kernel
theorem g69_236 : mC xm69 236 = some (.iload_n 1, 1) := by decide +kernel
theorem g69_237 : mC xm69 237 = some (.iaload, 1) := by decide +kernel
theorem g69_238 : mC xm69 238 = some (.aload_n 0, 1) := by decide +kernel
theorem g69_239 : mC xm69 239 = some (.getfield 9, 3) := by decide +kernel
theorem g69_242 : mC xm69 242 = some (.iload_n 2, 1) := by decide +kernel
theorem g69_243 : mC xm69 243 = some (.iaload, 1) := by decide +kernel
theorem g69_244 : mC xm69 244 = some (.iadd, 1) := by decide +kernel
theorem g69_245 : mC xm69 245 = some (.invokevirtual 87, 3) := by decide +kernel
theorem g69_248 : mC xm69 248 = some (.iastore, 1) := by decide +kernel
theorem g69_249 : mC xm69 249 = some (.goto 118, 3) := by decide +kernel
theorem g69_252 : mC xm69 252 = some (.aload_n 0, 1) := by decide +kernel
theorem g69_253 : mC xm69 253 = some (.getfield 9, 3) := by decide +kernel
theorem g69_256 : mC xm69 256 = some (.iload_n 1, 1) := by decide +kernel
theorem g69_257 : mC xm69 257 = some (.aload_n 0, 1) := by decide +kernel
theorem g69_258 : mC xm69 258 = some (.getfield 34, 3) := by decide +kernel
theorem g69_261 : mC xm69 261 = some (.iload_n 1, 1) := by decide +kernel
theorem g69_262 : mC xm69 262 = some (.aload_n 0, 1) := by decide +kernel
theorem g69_263 : mC xm69 263 = some (.getfield 9, 3) := by decide +kernel
theorem g69_266 : mC xm69 266 = some (.iload_n 1, 1) := by decide +kernel
theorem g69_267 : mC xm69 267 = some (.iaload, 1) := by decide +kernel
theorem g69_268 : mC xm69 268 = some (.aload_n 0, 1) := by decide +kernel
theorem g69_269 : mC xm69 269 = some (.getfield 9, 3) := by decide +kernel
theorem g69_272 : mC xm69 272 = some (.iload_n 2, 1) := by decide +kernel
theorem g69_273 : mC xm69 273 = some (.iaload, 1) := by decide +kernel
theorem g69_274 : mC xm69 274 = some (.isub, 1) := by decide +kernel
theorem g69_275 : mC xm69 275 = some (.invokevirtual 87, 3) := by decide +kernel
theorem g69_278 : mC xm69 278 = some (.iastore, 1) := by decide +kernel
theorem g69_279 : mC xm69 279 = some (.goto 88, 3) := by decide +kernel
theorem g69_282 : mC xm69 282 = some (.aload_n 0, 1) := by decide +kernel
theorem g69_283 : mC xm69 283 = some (.iload_n 1, 1) := by decide +kernel
theorem g69_284 : mC xm69 284 = some (.invokevirtual 98, 3) := by decide +kernel
theorem g69_287 : mC xm69 287 = some (.aload_n 0, 1) := by decide +kernel
theorem g69_288 : mC xm69 288 = some (.iload_n 2, 1) := by decide +kernel
theorem g69_289 : mC xm69 289 = some (.invokevirtual 98, 3) := by decide +kernel
theorem g69_292 : mC xm69 292 = some (.if_icmp .ge 7, 3) := by decide +kernel
theorem g69_295 : mC xm69 295 = some (.iload_n 3, 1) := by decide +kernel
theorem g69_296 : mC xm69 296 = some (.goto 5, 3) := by decide +kernel
theorem g69_299 : mC xm69 299 = some (.iload 4, 2) := by decide +kernel
theorem g69_301 : mC xm69 301 = some (.istore 4, 2) := by decide +kernel
theorem g69_303 : mC xm69 303 = some (.goto 64, 3) := by decide +kernel
theorem g69_306 : mC xm69 306 = some (.aload_n 0, 1) := by decide +kernel
theorem g69_307 : mC xm69 307 = some (.iload_n 1, 1) := by decide +kernel
theorem g69_308 : mC xm69 308 = some (.invokevirtual 98, 3) := by decide +kernel
theorem g69_311 : mC xm69 311 = some (.aload_n 0, 1) := by decide +kernel
theorem g69_312 : mC xm69 312 = some (.iload_n 2, 1) := by decide +kernel
theorem g69_313 : mC xm69 313 = some (.invokevirtual 98, 3) := by decide +kernel
theorem g69_316 : mC xm69 316 = some (.if_icmp .ne 7, 3) := by decide +kernel
theorem g69_319 : mC xm69 319 = some (.iload_n 3, 1) := by decide +kernel
theorem g69_320 : mC xm69 320 = some (.goto 5, 3) := by decide +kernel
theorem g69_323 : mC xm69 323 = some (.iload 4, 2) := by decide +kernel
theorem g69_325 : mC xm69 325 = some (.istore 4, 2) := by decide +kernel
theorem g69_327 : mC xm69 327 = some (.goto 40, 3) := by decide +kernel
theorem g69_330 : mC xm69 330 = some (.aload_n 0, 1) := by decide +kernel
theorem g69_331 : mC xm69 331 = some (.getfield 34, 3) := by decide +kernel
theorem g69_334 : mC xm69 334 = some (.aload_n 0, 1) := by decide +kernel
theorem g69_335 : mC xm69 335 = some (.iload_n 1, 1) := by decide +kernel
theorem g69_336 : mC xm69 336 = some (.invokevirtual 98, 3) := by decide +kernel
theorem g69_339 : mC xm69 339 = some (.invokevirtual 102, 3) := by decide +kernel
theorem g69_342 : mC xm69 342 = some (.ifCond .eq 7, 3) := by decide +kernel
theorem g69_345 : mC xm69 345 = some (.iload_n 3, 1) := by decide +kernel
theorem g69_346 : mC xm69 346 = some (.goto 5, 3) := by decide +kernel
theorem g69_349 : mC xm69 349 = some (.iload 4, 2) := by decide +kernel
theorem g69_351 : mC xm69 351 = some (.istore 4, 2) := by decide +kernel
theorem g69_353 : mC xm69 353 = some (.goto 14, 3) := by decide +kernel
theorem g69_356 : mC xm69 356 = some (.iload_n 3, 1) := by decide +kernel
theorem g69_357 : mC xm69 357 = some (.istore 4, 2) := by decide +kernel
theorem g69_359 : mC xm69 359 = some (.goto 8, 3) := by decide +kernel
theorem g69_362 : mC xm69 362 = some (.aload_n 0, 1) := by decide +kernel
theorem g69_363 : mC xm69 363 = some (.iconst 0, 1) := by decide +kernel
theorem g69_364 : mC xm69 364 = some (.putfield 44, 3) := by decide +kernel
theorem g69_367 : mC xm69 367 = some (.aload_n 0, 1) := by decide +kernel
theorem g69_368 : mC xm69 368 = some (.invokevirtual 66, 3) := by decide +kernel
theorem g69_371 : mC xm69 371 = some (.ifCond .ne 9, 3) := by decide +kernel
theorem g69_374 : mC xm69 374 = some (.aload_n 0, 1) := by decide +kernel
theorem g69_375 : mC xm69 375 = some (.iload 4, 2) := by decide +kernel
theorem g69_377 : mC xm69 377 = some (.invokevirtual 106, 3) := by decide +kernel
theorem g69_380 : mC xm69 380 = some (.return_, 1) := by decide +kernel
theorem g70_0 : mC xm70 0 = some (.aload_n 0, 1) := by decide +kernel
theorem g70_1 : mC xm70 1 = some (.getfield 18, 3) := by decide +kernel
theorem g70_4 : mC xm70 4 = some (.ifCond .eq 7, 3) := by decide +kernel
theorem g70_7 : mC xm70 7 = some (.iload_n 2, 1) := by decide +kernel
theorem g70_8 : mC xm70 8 = some (.goto 25, 3) := by decide +kernel
theorem g70_11 : mC xm70 11 = some (.iload_n 2, 1) := by decide +kernel
theorem g70_12 : mC xm70 12 = some (.aload_n 0, 1) := by decide +kernel
theorem g70_13 : mC xm70 13 = some (.getfield 9, 3) := by decide +kernel
theorem g70_16 : mC xm70 16 = some (.iload_n 1, 1) := by decide +kernel
theorem g70_17 : mC xm70 17 = some (.iaload, 1) := by decide +kernel
theorem g70_18 : mC xm70 18 = some (.iconst 2, 1) := by decide +kernel
theorem g70_19 : mC xm70 19 = some (.if_icmp .ne 8, 3) := by decide +kernel
theorem g70_22 : mC xm70 22 = some (.bipush 100, 2) := by decide +kernel
theorem g70_24 : mC xm70 24 = some (.goto 6, 3) := by decide +kernel
theorem g70_30 : mC xm70 30 = some (.invokestatic 32, 3) := by decide +kernel
theorem g70_33 : mC xm70 33 = some (.ireturn, 1) := by decide +kernel
theorem g71_0 : mC xm71 0 = some (.iload_n 0, 1) := by decide +kernel
theorem g71_1 : mC xm71 1 = some (.iload_n 1, 1) := by decide +kernel
theorem g71_2 : mC xm71 2 = some (.irem, 1) := by decide +kernel
theorem g71_3 : mC xm71 3 = some (.istore_n 2, 1) := by decide +kernel
theorem g71_4 : mC xm71 4 = some (.iload_n 0, 1) := by decide +kernel
theorem g71_5 : mC xm71 5 = some (.iload_n 1, 1) := by decide +kernel
theorem g71_6 : mC xm71 6 = some (.ixor, 1) := by decide +kernel
theorem g71_7 : mC xm71 7 = some (.ifCond .ge 11, 3) := by decide +kernel
theorem g71_10 : mC xm71 10 = some (.iload_n 2, 1) := by decide +kernel
theorem g71_11 : mC xm71 11 = some (.ifCond .eq 7, 3) := by decide +kernel
theorem g71_14 : mC xm71 14 = some (.iload_n 2, 1) := by decide +kernel
theorem g71_15 : mC xm71 15 = some (.iload_n 1, 1) := by decide +kernel
theorem g71_16 : mC xm71 16 = some (.iadd, 1) := by decide +kernel
theorem g71_17 : mC xm71 17 = some (.ireturn, 1) := by decide +kernel
theorem g71_18 : mC xm71 18 = some (.iload_n 2, 1) := by decide +kernel
theorem g71_19 : mC xm71 19 = some (.ireturn, 1) := by decide +kernel
theorem g72_0 : mC xm72 0 = some (.aload_n 0, 1) := by decide +kernel
theorem g72_1 : mC xm72 1 = some (.getfield 38, 3) := by decide +kernel
theorem g72_4 : mC xm72 4 = some (.aload_n 0, 1) := by decide +kernel
theorem g72_5 : mC xm72 5 = some (.getfield 54, 3) := by decide +kernel
theorem g72_8 : mC xm72 8 = some (.invokevirtual 109, 3) := by decide +kernel
theorem g72_11 : mC xm72 11 = some (.ifCond .ne 9, 3) := by decide +kernel
theorem g72_14 : mC xm72 14 = some (.aload_n 0, 1) := by decide +kernel
theorem g72_15 : mC xm72 15 = some (.iconst 1, 1) := by decide +kernel
theorem g72_16 : mC xm72 16 = some (.putfield 44, 3) := by decide +kernel
theorem g72_19 : mC xm72 19 = some (.return_, 1) := by decide +kernel
theorem g72_20 : mC xm72 20 = some (.aload_n 0, 1) := by decide +kernel
theorem g72_21 : mC xm72 21 = some (.getfield 9, 3) := by decide +kernel
theorem g72_24 : mC xm72 24 = some (.iload_n 1, 1) := by decide +kernel
theorem g72_25 : mC xm72 25 = some (.aload_n 0, 1) := by decide +kernel
theorem g72_26 : mC xm72 26 = some (.getfield 34, 3) := by decide +kernel
theorem g72_29 : mC xm72 29 = some (.iload_n 1, 1) := by decide +kernel
theorem g72_30 : mC xm72 30 = some (.aload_n 0, 1) := by decide +kernel
theorem g72_31 : mC xm72 31 = some (.getfield 38, 3) := by decide +kernel
theorem g72_34 : mC xm72 34 = some (.aload_n 0, 1) := by decide +kernel
theorem g72_35 : mC xm72 35 = some (.getfield 54, 3) := by decide +kernel
theorem g72_38 : mC xm72 38 = some (.invokevirtual 112, 3) := by decide +kernel
theorem g72_41 : mC xm72 41 = some (.invokevirtual 87, 3) := by decide +kernel
theorem g72_44 : mC xm72 44 = some (.iastore, 1) := by decide +kernel
theorem g72_45 : mC xm72 45 = some (.aload_n 0, 1) := by decide +kernel
theorem g72_46 : mC xm72 46 = some (.dup, 1) := by decide +kernel
theorem g72_47 : mC xm72 47 = some (.getfield 54, 3) := by decide +kernel
theorem g72_50 : mC xm72 50 = some (.iconst 1, 1) := by decide +kernel
theorem g72_51 : mC xm72 51 = some (.iadd, 1) := by decide +kernel
theorem g72_52 : mC xm72 52 = some (.putfield 54, 3) := by decide +kernel
theorem g72_55 : mC xm72 55 = some (.return_, 1) := by decide +kernel
theorem g73_0 : mC xm73 0 = some (.iload_n 1, 1) := by decide +kernel
theorem g73_1 : mC xm73 1 = some (.ifCond .lt 15, 3) := by decide +kernel
theorem g73_4 : mC xm73 4 = some (.iload_n 1, 1) := by decide +kernel
theorem g73_5 : mC xm73 5 = some (.aload_n 0, 1) := by decide +kernel
theorem g73_6 : mC xm73 6 = some (.getfield 13, 3) := by decide +kernel
theorem g73_9 : mC xm73 9 = some (.if_icmp .ge 7, 3) := by decide +kernel
theorem g73_12 : mC xm73 12 = some (.iconst 1, 1) := by decide +kernel
theorem g73_13 : mC xm73 13 = some (.goto 4, 3) := by decide +kernel
theorem g73_16 : mC xm73 16 = some (.iconst 0, 1) := by decide +kernel
theorem g73_17 : mC xm73 17 = some (.ireturn, 1) := by decide +kernel
theorem g74_0 : mC xm74 0 = some (.aload_n 0, 1) := by decide +kernel
theorem g74_1 : mC xm74 1 = some (.iload_n 1, 1) := by decide +kernel
theorem g74_2 : mC xm74 2 = some (.invokevirtual 17, 3) := by decide +kernel
theorem g74_5 : mC xm74 5 = some (.ifCond .eq 12, 3) := by decide +kernel
theorem g74_8 : mC xm74 8 = some (.aload_n 0, 1) := by decide +kernel
theorem g74_9 : mC xm74 9 = some (.getfield 9, 3) := by decide +kernel
theorem g74_12 : mC xm74 12 = some (.iload_n 1, 1) := by decide +kernel
theorem g74_13 : mC xm74 13 = some (.iaload, 1) := by decide +kernel
theorem g74_14 : mC xm74 14 = some (.goto 4, 3) := by decide +kernel
theorem g74_18 : mC xm74 18 = some (.ireturn, 1) := by decide +kernel
theorem g75_0 : mC xm75 0 = some (.aload_n 0, 1) := by decide +kernel
theorem g75_1 : mC xm75 1 = some (.aload_n 0, 1) := by decide +kernel
theorem g75_2 : mC xm75 2 = some (.getfield 41, 3) := by decide +kernel
theorem g75_5 : mC xm75 5 = some (.aload_n 0, 1) := by decide +kernel
theorem g75_6 : mC xm75 6 = some (.getfield 9, 3) := by decide +kernel
theorem g75_9 : mC xm75 9 = some (.iload_n 1, 1) := by decide +kernel
theorem g75_10 : mC xm75 10 = some (.iaload, 1) := by decide +kernel
theorem g75_11 : mC xm75 11 = some (.invokevirtual 115, 3) := by decide +kernel
theorem g75_14 : mC xm75 14 = some (.putfield 73, 3) := by decide +kernel
theorem g75_17 : mC xm75 17 = some (.aload_n 0, 1) := by decide +kernel
theorem g75_18 : mC xm75 18 = some (.aload_n 0, 1) := by decide +kernel
theorem g75_19 : mC xm75 19 = some (.getfield 9, 3) := by decide +kernel
theorem g75_22 : mC xm75 22 = some (.iload_n 1, 1) := by decide +kernel
theorem g75_23 : mC xm75 23 = some (.iaload, 1) := by decide +kernel
theorem g75_24 : mC xm75 24 = some (.putfield 118, 3) := by decide +kernel
theorem g75_27 : mC xm75 27 = some (.aload_n 0, 1) := by decide +kernel
theorem g75_28 : mC xm75 28 = some (.getfield 73, 3) := by decide +kernel
theorem g75_31 : mC xm75 31 = some (.ifCond .ne 8, 3) := by decide +kernel
theorem g75_34 : mC xm75 34 = some (.aload_n 0, 1) := by decide +kernel
theorem g75_35 : mC xm75 35 = some (.iconst 1, 1) := by decide +kernel
theorem g75_36 : mC xm75 36 = some (.putfield 44, 3) := by decide +kernel
theorem g75_39 : mC xm75 39 = some (.return_, 1) := by decide +kernel
theorem g76_0 : mC xm76 0 = some (.aload_n 0, 1) := by decide +kernel
theorem g76_1 : mC xm76 1 = some (.getfield 34, 3) := by decide +kernel
theorem g76_4 : mC xm76 4 = some (.iload_n 1, 1) := by decide +kernel
theorem g76_5 : mC xm76 5 = some (.aload_n 0, 1) := by decide +kernel
theorem g76_6 : mC xm76 6 = some (.getfield 9, 3) := by decide +kernel
theorem g76_9 : mC xm76 9 = some (.iload_n 1, 1) := by decide +kernel
theorem g76_10 : mC xm76 10 = some (.iaload, 1) := by decide +kernel
theorem g76_11 : mC xm76 11 = some (.invokevirtual 121, 3) := by decide +kernel
theorem g76_14 : mC xm76 14 = some (.ireturn, 1) := by decide +kernel
theorem g77_0 : mC xm77 0 = some (.aload_n 0, 1) := by decide +kernel
theorem g77_1 : mC xm77 1 = some (.getfield 18, 3) := by decide +kernel
theorem g77_4 : mC xm77 4 = some (.ifCond .ne 27, 3) := by decide +kernel
theorem g77_7 : mC xm77 7 = some (.aload_n 0, 1) := by decide +kernel
theorem g77_8 : mC xm77 8 = some (.getfield 9, 3) := by decide +kernel
theorem g77_11 : mC xm77 11 = some (.iload_n 1, 1) := by decide +kernel
theorem g77_12 : mC xm77 12 = some (.iaload, 1) := by decide +kernel
theorem g77_13 : mC xm77 13 = some (.iconst 2, 1) := by decide +kernel
theorem g77_14 : mC xm77 14 = some (.if_icmp .ne 17, 3) := by decide +kernel
theorem g77_17 : mC xm77 17 = some (.aload_n 0, 1) := by decide +kernel
theorem g77_18 : mC xm77 18 = some (.getfield 15, 3) := by decide +kernel
theorem g77_21 : mC xm77 21 = some (.iload_n 1, 1) := by decide +kernel
theorem g77_22 : mC xm77 22 = some (.iaload, 1) := by decide +kernel
theorem g77_23 : mC xm77 23 = some (.iconst (-1), 1) := by decide +kernel
theorem g77_24 : mC xm77 24 = some (.if_icmp .eq 7, 3) := by decide +kernel
theorem g77_31 : mC xm77 31 = some (.iconst 0, 1) := by decide +kernel
theorem g77_32 : mC xm77 32 = some (.istore_n 3, 1) := by decide +kernel
theorem g77_33 : mC xm77 33 = some (.iload_n 3, 1) := by decide +kernel
theorem g77_34 : mC xm77 34 = some (.ifCond .eq 16, 3) := by decide +kernel
theorem g77_50 : mC xm77 50 = some (.iload_n 2, 1) := by decide +kernel
theorem g77_51 : mC xm77 51 = some (.ireturn, 1) := by decide +kernel
theorem g79_0 : mC xm79 0 = some (.aload_n 0, 1) := by decide +kernel
theorem g79_1 : mC xm79 1 = some (.getfield 18, 3) := by decide +kernel
theorem g79_4 : mC xm79 4 = some (.ifCond .ne 17, 3) := by decide +kernel
theorem g79_7 : mC xm79 7 = some (.iload_n 1, 1) := by decide +kernel
theorem g79_8 : mC xm79 8 = some (.bipush 100, 2) := by decide +kernel
theorem g79_10 : mC xm79 10 = some (.if_icmp .ge 11, 3) := by decide +kernel
theorem g79_13 : mC xm79 13 = some (.sipush 1900, 3) := by decide +kernel
theorem g79_16 : mC xm79 16 = some (.iload_n 1, 1) := by decide +kernel
theorem g79_17 : mC xm79 17 = some (.iadd, 1) := by decide +kernel
theorem g79_18 : mC xm79 18 = some (.goto 4, 3) := by decide +kernel
theorem g79_21 : mC xm79 21 = some (.iload_n 1, 1) := by decide +kernel
theorem g79_22 : mC xm79 22 = some (.aload_n 0, 1) := by decide +kernel
theorem g79_23 : mC xm79 23 = some (.getfield 22, 3) := by decide +kernel
theorem g79_26 : mC xm79 26 = some (.invokestatic 41, 3) := by decide +kernel
theorem g79_29 : mC xm79 29 = some (.ireturn, 1) := by decide +kernel
theorem g80_0 : mC xm80 0 = some (.iload_n 0, 1) := by decide +kernel
theorem g80_1 : mC xm80 1 = some (.iconst 4, 1) := by decide +kernel
theorem g80_2 : mC xm80 2 = some (.irem, 1) := by decide +kernel
theorem g80_3 : mC xm80 3 = some (.ifCond .ne 7, 3) := by decide +kernel
theorem g80_6 : mC xm80 6 = some (.iconst 1, 1) := by decide +kernel
theorem g80_7 : mC xm80 7 = some (.goto 4, 3) := by decide +kernel
theorem g80_10 : mC xm80 10 = some (.iconst 0, 1) := by decide +kernel
theorem g80_11 : mC xm80 11 = some (.istore_n 2, 1) := by decide +kernel
theorem g80_12 : mC xm80 12 = some (.iload_n 1, 1) := by decide +kernel
theorem g80_13 : mC xm80 13 = some (.lookupswitch (46) #[(0, (27)), (1, (29))], 27) := by decide +kernel
theorem g80_40 : mC xm80 40 = some (.iload_n 2, 1) := by decide +kernel
theorem g80_41 : mC xm80 41 = some (.ireturn, 1) := by decide +kernel
theorem g80_59 : mC xm80 59 = some (.iload_n 2, 1) := by decide +kernel
theorem g80_60 : mC xm80 60 = some (.ifCond .eq 22, 3) := by decide +kernel
theorem g80_63 : mC xm80 63 = some (.iload_n 0, 1) := by decide +kernel
theorem g80_64 : mC xm80 64 = some (.bipush 100, 2) := by decide +kernel
theorem g80_66 : mC xm80 66 = some (.irem, 1) := by decide +kernel
theorem g80_67 : mC xm80 67 = some (.ifCond .ne 11, 3) := by decide +kernel
theorem g80_70 : mC xm80 70 = some (.iload_n 0, 1) := by decide +kernel
theorem g80_71 : mC xm80 71 = some (.sipush 400, 3) := by decide +kernel
theorem g80_74 : mC xm80 74 = some (.irem, 1) := by decide +kernel
theorem g80_75 : mC xm80 75 = some (.ifCond .ne 7, 3) := by decide +kernel
theorem g80_78 : mC xm80 78 = some (.iconst 1, 1) := by decide +kernel
theorem g80_79 : mC xm80 79 = some (.goto 4, 3) := by decide +kernel
theorem g80_82 : mC xm80 82 = some (.iconst 0, 1) := by decide +kernel
theorem g80_83 : mC xm80 83 = some (.ireturn, 1) := by decide +kernel
theorem g81_0 : mC xm81 0 = some (.aload_n 0, 1) := by decide +kernel
theorem g81_1 : mC xm81 1 = some (.iload_n 1, 1) := by decide +kernel
theorem g81_2 : mC xm81 2 = some (.putfield 51, 3) := by decide +kernel
theorem g81_5 : mC xm81 5 = some (.aload_n 0, 1) := by decide +kernel
theorem g81_6 : mC xm81 6 = some (.getfield 51, 3) := by decide +kernel
theorem g81_9 : mC xm81 9 = some (.aload_n 0, 1) := by decide +kernel
theorem g81_10 : mC xm81 10 = some (.getfield 25, 3) := by decide +kernel
theorem g81_13 : mC xm81 13 = some (.getfield 60, 3) := by decide +kernel
theorem g81_16 : mC xm81 16 = some (.if_icmp .lt 11, 3) := by decide +kernel
theorem g81_19 : mC xm81 19 = some (.aload_n 0, 1) := by decide +kernel
theorem g81_20 : mC xm81 20 = some (.iconst 0, 1) := by decide +kernel
theorem g81_21 : mC xm81 21 = some (.putfield 44, 3) := by decide +kernel
theorem g81_24 : mC xm81 24 = some (.goto 18, 3) := by decide +kernel
theorem g81_27 : mC xm81 27 = some (.aload_n 0, 1) := by decide +kernel
theorem g81_28 : mC xm81 28 = some (.getfield 57, 3) := by decide +kernel
theorem g81_31 : mC xm81 31 = some (.sipush 150, 3) := by decide +kernel
theorem g81_34 : mC xm81 34 = some (.if_icmp .lt 8, 3) := by decide +kernel
theorem g81_37 : mC xm81 37 = some (.aload_n 0, 1) := by decide +kernel
theorem g81_38 : mC xm81 38 = some (.iconst 2, 1) := by decide +kernel
theorem g81_39 : mC xm81 39 = some (.putfield 44, 3) := by decide +kernel
theorem g81_42 : mC xm81 42 = some (.return_, 1) := by decide +kernel
theorem g83_0 : mC xm83 0 = some (.aload_n 0, 1) := by decide +kernel
theorem g83_1 : mC xm83 1 = some (.getfield 13, 3) := by decide +kernel
theorem g83_4 : mC xm83 4 = some (.aload_n 1, 1) := by decide +kernel
theorem g83_5 : mC xm83 5 = some (.getfield 13, 3) := by decide +kernel
theorem g83_8 : mC xm83 8 = some (.if_icmp .eq 5, 3) := by decide +kernel
theorem g83_11 : mC xm83 11 = some (.iconst 0, 1) := by decide +kernel
theorem g83_12 : mC xm83 12 = some (.ireturn, 1) := by decide +kernel
theorem g83_13 : mC xm83 13 = some (.iconst 0, 1) := by decide +kernel
theorem g83_14 : mC xm83 14 = some (.istore_n 2, 1) := by decide +kernel
theorem g83_15 : mC xm83 15 = some (.iload_n 2, 1) := by decide +kernel
theorem g83_16 : mC xm83 16 = some (.aload_n 0, 1) := by decide +kernel
theorem g83_17 : mC xm83 17 = some (.getfield 13, 3) := by decide +kernel
theorem g83_20 : mC xm83 20 = some (.if_icmp .ge 26, 3) := by decide +kernel
theorem g83_23 : mC xm83 23 = some (.aload_n 0, 1) := by decide +kernel
theorem g83_24 : mC xm83 24 = some (.getfield 9, 3) := by decide +kernel
theorem g83_27 : mC xm83 27 = some (.iload_n 2, 1) := by decide +kernel
theorem g83_28 : mC xm83 28 = some (.iaload, 1) := by decide +kernel
theorem g83_29 : mC xm83 29 = some (.aload_n 1, 1) := by decide +kernel
theorem g83_30 : mC xm83 30 = some (.getfield 9, 3) := by decide +kernel
theorem g83_33 : mC xm83 33 = some (.iload_n 2, 1) := by decide +kernel
theorem g83_34 : mC xm83 34 = some (.iaload, 1) := by decide +kernel
theorem g83_35 : mC xm83 35 = some (.if_icmp .eq 5, 3) := by decide +kernel
theorem g83_38 : mC xm83 38 = some (.iconst 0, 1) := by decide +kernel
theorem g83_39 : mC xm83 39 = some (.ireturn, 1) := by decide +kernel
theorem g83_40 : mC xm83 40 = some (.iinc 2 1, 3) := by decide +kernel
theorem g83_43 : mC xm83 43 = some (.goto (-28), 3) := by decide +kernel
theorem g83_46 : mC xm83 46 = some (.iconst 1, 1) := by decide +kernel
theorem g83_47 : mC xm83 47 = some (.ireturn, 1) := by decide +kernel
theorem g116_0 : mC xm116 0 = some (.iconst 0, 1) := by decide +kernel
theorem g116_1 : mC xm116 1 = some (.istore_n 1, 1) := by decide +kernel
theorem g116_2 : mC xm116 2 = some (.iload_n 1, 1) := by decide +kernel
theorem g116_3 : mC xm116 3 = some (.sipush 150, 3) := by decide +kernel
theorem g116_6 : mC xm116 6 = some (.if_icmp .ge 20, 3) := by decide +kernel
theorem g116_9 : mC xm116 9 = some (.aload_n 0, 1) := by decide +kernel
theorem g116_10 : mC xm116 10 = some (.invokevirtual 66, 3) := by decide +kernel
theorem g116_13 : mC xm116 13 = some (.ifCond .ne 13, 3) := by decide +kernel
theorem g116_16 : mC xm116 16 = some (.aload_n 0, 1) := by decide +kernel
theorem g116_17 : mC xm116 17 = some (.invokevirtual 70, 3) := by decide +kernel
theorem g116_20 : mC xm116 20 = some (.iinc 1 1, 3) := by decide +kernel
theorem g116_23 : mC xm116 23 = some (.goto (-21), 3) := by decide +kernel
theorem g116_26 : mC xm116 26 = some (.aload_n 0, 1) := by decide +kernel
theorem g116_27 : mC xm116 27 = some (.getfield 44, 3) := by decide +kernel
theorem g116_30 : mC xm116 30 = some (.ireturn, 1) := by decide +kernel
theorem g141_0 : mC xm141 0 = some (.iconst 0, 1) := by decide +kernel
theorem g141_1 : mC xm141 1 = some (.istore_n 3, 1) := by decide +kernel
theorem g141_2 : mC xm141 2 = some (.iload_n 3, 1) := by decide +kernel
theorem g141_3 : mC xm141 3 = some (.aload_n 0, 1) := by decide +kernel
theorem g141_4 : mC xm141 4 = some (.getfield 107, 3) := by decide +kernel
theorem g141_7 : mC xm141 7 = some (.if_icmp .ge 81, 3) := by decide +kernel
theorem g141_10 : mC xm141 10 = some (.aload_n 0, 1) := by decide +kernel
theorem g141_11 : mC xm141 11 = some (.getfield 25, 3) := by decide +kernel
theorem g141_14 : mC xm141 14 = some (.iload_n 3, 1) := by decide +kernel
theorem g141_15 : mC xm141 15 = some (.aaload, 1) := by decide +kernel
theorem g141_16 : mC xm141 16 = some (.astore 4, 2) := by decide +kernel
theorem g141_18 : mC xm141 18 = some (.aload 4, 2) := by decide +kernel
theorem g141_20 : mC xm141 20 = some (.getfield 121, 3) := by decide +kernel
theorem g141_23 : mC xm141 23 = some (.iconst 5, 1) := by decide +kernel
theorem g141_24 : mC xm141 24 = some (.if_icmp .ne 18, 3) := by decide +kernel
theorem g141_27 : mC xm141 27 = some (.iload_n 2, 1) := by decide +kernel
theorem g141_28 : mC xm141 28 = some (.ifCond .ne 14, 3) := by decide +kernel
theorem g141_42 : mC xm141 42 = some (.aload_n 0, 1) := by decide +kernel
theorem g141_43 : mC xm141 43 = some (.getfield 51, 3) := by decide +kernel
theorem g141_46 : mC xm141 46 = some (.aload 4, 2) := by decide +kernel
theorem g141_48 : mC xm141 48 = some (.getfield 133, 3) := by decide +kernel
theorem g141_51 : mC xm141 51 = some (.aload_n 0, 1) := by decide +kernel
theorem g141_52 : mC xm141 52 = some (.getfield 38, 3) := by decide +kernel
theorem g141_55 : mC xm141 55 = some (.aload_n 0, 1) := by decide +kernel
theorem g141_56 : mC xm141 56 = some (.iload_n 3, 1) := by decide +kernel
theorem g141_57 : mC xm141 57 = some (.iconst (-1), 1) := by decide +kernel
theorem g141_58 : mC xm141 58 = some (.invokevirtual 488, 3) := by decide +kernel
theorem g141_61 : mC xm141 61 = some (.aload 4, 2) := by decide +kernel
theorem g141_63 : mC xm141 63 = some (.getfield 485, 3) := by decide +kernel
theorem g141_66 : mC xm141 66 = some (.iload_n 1, 1) := by decide +kernel
theorem g141_67 : mC xm141 67 = some (.invokevirtual 316, 3) := by decide +kernel
theorem g141_70 : mC xm141 70 = some (.aload 4, 2) := by decide +kernel
theorem g141_72 : mC xm141 72 = some (.aload_n 0, 1) := by decide +kernel
theorem g141_73 : mC xm141 73 = some (.getfield 51, 3) := by decide +kernel
theorem g141_76 : mC xm141 76 = some (.invokevirtual 320, 3) := by decide +kernel
theorem g141_79 : mC xm141 79 = some (.putfield 492, 3) := by decide +kernel
theorem g141_82 : mC xm141 82 = some (.iinc 3 1, 3) := by decide +kernel
theorem g141_85 : mC xm141 85 = some (.goto (-83), 3) := by decide +kernel
theorem g141_88 : mC xm141 88 = some (.return_, 1) := by decide +kernel
theorem g142_0 : mC xm142 0 = some (.aload_n 0, 1) := by decide +kernel
theorem g142_1 : mC xm142 1 = some (.getfield 25, 3) := by decide +kernel
theorem g142_4 : mC xm142 4 = some (.iload_n 1, 1) := by decide +kernel
theorem g142_5 : mC xm142 5 = some (.aaload, 1) := by decide +kernel
theorem g142_6 : mC xm142 6 = some (.getfield 124, 3) := by decide +kernel
theorem g142_9 : mC xm142 9 = some (.istore_n 3, 1) := by decide +kernel
theorem g142_10 : mC xm142 10 = some (.aload_n 0, 1) := by decide +kernel
theorem g142_11 : mC xm142 11 = some (.iload_n 3, 1) := by decide +kernel
theorem g142_12 : mC xm142 12 = some (.invokevirtual 117, 3) := by decide +kernel
theorem g142_15 : mC xm142 15 = some (.astore 4, 2) := by decide +kernel
theorem g142_17 : mC xm142 17 = some (.aload 4, 2) := by decide +kernel
theorem g142_19 : mC xm142 19 = some (.ifnonnull 13, 3) := by decide +kernel
theorem g142_22 : mC xm142 22 = some (.aload_n 0, 1) := by decide +kernel
theorem g142_23 : mC xm142 23 = some (.getfield 25, 3) := by decide +kernel
theorem g142_26 : mC xm142 26 = some (.iload_n 1, 1) := by decide +kernel
theorem g142_27 : mC xm142 27 = some (.aaload, 1) := by decide +kernel
theorem g142_28 : mC xm142 28 = some (.getfield 190, 3) := by decide +kernel
theorem g142_31 : mC xm142 31 = some (.areturn, 1) := by decide +kernel
theorem g142_32 : mC xm142 32 = some (.iload_n 2, 1) := by decide +kernel
theorem g142_33 : mC xm142 33 = some (.iload_n 3, 1) := by decide +kernel
theorem g142_34 : mC xm142 34 = some (.invokestatic 247, 3) := by decide +kernel
theorem g142_37 : mC xm142 37 = some (.ifCond .eq 22, 3) := by decide +kernel
theorem g142_40 : mC xm142 40 = some (.iload_n 3, 1) := by decide +kernel
theorem g142_41 : mC xm142 41 = some (.iload_n 1, 1) := by decide +kernel
theorem g142_42 : mC xm142 42 = some (.if_icmp .ge 11, 3) := by decide +kernel
theorem g142_45 : mC xm142 45 = some (.aload 4, 2) := by decide +kernel
theorem g142_47 : mC xm142 47 = some (.getfield 485, 3) := by decide +kernel
theorem g142_50 : mC xm142 50 = some (.goto 8, 3) := by decide +kernel
theorem g142_53 : mC xm142 53 = some (.aload 4, 2) := by decide +kernel
theorem g142_55 : mC xm142 55 = some (.getfield 144, 3) := by decide +kernel
theorem g142_58 : mC xm142 58 = some (.areturn, 1) := by decide +kernel
theorem g142_59 : mC xm142 59 = some (.iload_n 3, 1) := by decide +kernel
theorem g142_60 : mC xm142 60 = some (.iload_n 1, 1) := by decide +kernel
theorem g142_61 : mC xm142 61 = some (.if_icmp .ge 11, 3) := by decide +kernel
theorem g142_64 : mC xm142 64 = some (.aload 4, 2) := by decide +kernel
theorem g142_66 : mC xm142 66 = some (.getfield 495, 3) := by decide +kernel
theorem g142_69 : mC xm142 69 = some (.goto 8, 3) := by decide +kernel
theorem g142_72 : mC xm142 72 = some (.aload 4, 2) := by decide +kernel
theorem g142_74 : mC xm142 74 = some (.getfield 137, 3) := by decide +kernel
theorem g142_77 : mC xm142 77 = some (.areturn, 1) := by decide +kernel
theorem g144_0 : mC xm144 0 = some (.iconst 0, 1) := by decide +kernel
theorem g144_1 : mC xm144 1 = some (.istore 4, 2) := by decide +kernel
theorem g144_3 : mC xm144 3 = some (.iconst 0, 1) := by decide +kernel
theorem g144_4 : mC xm144 4 = some (.istore 5, 2) := by decide +kernel
theorem g144_6 : mC xm144 6 = some (.iload 5, 2) := by decide +kernel
theorem g144_8 : mC xm144 8 = some (.aload_n 0, 1) := by decide +kernel
theorem g144_9 : mC xm144 9 = some (.getfield 107, 3) := by decide +kernel
theorem g144_12 : mC xm144 12 = some (.if_icmp .ge 147, 3) := by decide +kernel
theorem g144_15 : mC xm144 15 = some (.aload_n 0, 1) := by decide +kernel
theorem g144_16 : mC xm144 16 = some (.getfield 25, 3) := by decide +kernel
theorem g144_19 : mC xm144 19 = some (.iload 5, 2) := by decide +kernel
theorem g144_21 : mC xm144 21 = some (.aaload, 1) := by decide +kernel
theorem g144_22 : mC xm144 22 = some (.astore 6, 2) := by decide +kernel
theorem g144_24 : mC xm144 24 = some (.aload 6, 2) := by decide +kernel
theorem g144_26 : mC xm144 26 = some (.getfield 121, 3) := by decide +kernel
theorem g144_29 : mC xm144 29 = some (.iconst 5, 1) := by decide +kernel
theorem g144_30 : mC xm144 30 = some (.if_icmp .ne 28, 3) := by decide +kernel
theorem g144_33 : mC xm144 33 = some (.iload_n 3, 1) := by decide +kernel
theorem g144_34 : mC xm144 34 = some (.ifCond .ne 24, 3) := by decide +kernel
theorem g144_58 : mC xm144 58 = some (.iload_n 1, 1) := by decide +kernel
theorem g144_59 : mC xm144 59 = some (.iload 5, 2) := by decide +kernel
theorem g144_61 : mC xm144 61 = some (.invokestatic 247, 3) := by decide +kernel
theorem g144_64 : mC xm144 64 = some (.ifCond .ne 89, 3) := by decide +kernel
theorem g144_67 : mC xm144 67 = some (.aload_n 0, 1) := by decide +kernel
theorem g144_68 : mC xm144 68 = some (.getfield 47, 3) := by decide +kernel
theorem g144_71 : mC xm144 71 = some (.aload 6, 2) := by decide +kernel
theorem g144_73 : mC xm144 73 = some (.getfield 133, 3) := by decide +kernel
theorem g144_76 : mC xm144 76 = some (.iload_n 3, 1) := by decide +kernel
theorem g144_77 : mC xm144 77 = some (.ifCond .eq 10, 3) := by decide +kernel
theorem g144_80 : mC xm144 80 = some (.aload_n 0, 1) := by decide +kernel
theorem g144_81 : mC xm144 81 = some (.getfield 34, 3) := by decide +kernel
theorem g144_84 : mC xm144 84 = some (.goto 8, 3) := by decide +kernel
theorem g144_92 : mC xm144 92 = some (.aload_n 0, 1) := by decide +kernel
theorem g144_93 : mC xm144 93 = some (.iload 5, 2) := by decide +kernel
theorem g144_95 : mC xm144 95 = some (.iload_n 1, 1) := by decide +kernel
theorem g144_96 : mC xm144 96 = some (.invokevirtual 488, 3) := by decide +kernel
theorem g144_99 : mC xm144 99 = some (.aload 6, 2) := by decide +kernel
theorem g144_101 : mC xm144 101 = some (.getfield 495, 3) := by decide +kernel
theorem g144_104 : mC xm144 104 = some (.iload_n 2, 1) := by decide +kernel
theorem g144_105 : mC xm144 105 = some (.invokevirtual 316, 3) := by decide +kernel
theorem g144_108 : mC xm144 108 = some (.aload_n 0, 1) := by decide +kernel
theorem g144_109 : mC xm144 109 = some (.getfield 47, 3) := by decide +kernel
theorem g144_112 : mC xm144 112 = some (.invokevirtual 320, 3) := by decide +kernel
theorem g144_115 : mC xm144 115 = some (.istore 7, 2) := by decide +kernel
theorem g144_117 : mC xm144 117 = some (.iload 7, 2) := by decide +kernel
theorem g144_119 : mC xm144 119 = some (.aload 6, 2) := by decide +kernel
theorem g144_121 : mC xm144 121 = some (.getfield 492, 3) := by decide +kernel
theorem g144_124 : mC xm144 124 = some (.if_icmp .ne 19, 3) := by decide +kernel
theorem g144_127 : mC xm144 127 = some (.aload 6, 2) := by decide +kernel
theorem g144_129 : mC xm144 129 = some (.getfield 495, 3) := by decide +kernel
theorem g144_132 : mC xm144 132 = some (.aload 6, 2) := by decide +kernel
theorem g144_134 : mC xm144 134 = some (.getfield 485, 3) := by decide +kernel
theorem g144_137 : mC xm144 137 = some (.invokevirtual 324, 3) := by decide +kernel
theorem g144_140 : mC xm144 140 = some (.ifCond .ne 13, 3) := by decide +kernel
theorem g144_143 : mC xm144 143 = some (.iload 4, 2) := by decide +kernel
theorem g144_145 : mC xm144 145 = some (.aload 6, 2) := by decide +kernel
theorem g144_147 : mC xm144 147 = some (.getfield 153, 3) := by decide +kernel
theorem g144_150 : mC xm144 150 = some (.iadd, 1) := by decide +kernel
theorem g144_151 : mC xm144 151 = some (.istore 4, 2) := by decide +kernel
theorem g144_153 : mC xm144 153 = some (.iinc 5 1, 3) := by decide +kernel
theorem g144_156 : mC xm144 156 = some (.goto (-150), 3) := by decide +kernel
theorem g144_159 : mC xm144 159 = some (.iload 4, 2) := by decide +kernel
theorem g144_161 : mC xm144 161 = some (.ireturn, 1) := by decide +kernel
theorem g146_0 : mC xm146 0 = some (.iload_n 1, 1) := by decide +kernel
theorem g146_1 : mC xm146 1 = some (.invokestatic 212, 3) := by decide +kernel
theorem g146_4 : mC xm146 4 = some (.ifCond .ne 6, 3) := by decide +kernel
theorem g146_7 : mC xm146 7 = some (.bipush (-2), 2) := by decide +kernel
theorem g146_9 : mC xm146 9 = some (.ireturn, 1) := by decide +kernel
theorem g146_10 : mC xm146 10 = some (.aload_n 0, 1) := by decide +kernel
theorem g146_11 : mC xm146 11 = some (.iload_n 1, 1) := by decide +kernel
theorem g146_12 : mC xm146 12 = some (.iconst 1, 1) := by decide +kernel
theorem g146_13 : mC xm146 13 = some (.invokevirtual 372, 3) := by decide +kernel
theorem g146_16 : mC xm146 16 = some (.aload_n 0, 1) := by decide +kernel
theorem g146_17 : mC xm146 17 = some (.iconst 0, 1) := by decide +kernel
theorem g146_18 : mC xm146 18 = some (.iload_n 1, 1) := by decide +kernel
theorem g146_19 : mC xm146 19 = some (.iconst 1, 1) := by decide +kernel
theorem g146_20 : mC xm146 20 = some (.invokevirtual 380, 3) := by decide +kernel
theorem g146_23 : mC xm146 23 = some (.ireturn, 1) := by decide +kernel
theorem g181_0 : mC xm181 0 = some (.iload_n 1, 1) := by decide +kernel
theorem g181_1 : mC xm181 1 = some (.iload_n 0, 1) := by decide +kernel
theorem g181_2 : mC xm181 2 = some (.if_icmp .gt 12, 3) := by decide +kernel
theorem g181_5 : mC xm181 5 = some (.iload_n 0, 1) := by decide +kernel
theorem g181_6 : mC xm181 6 = some (.iload_n 2, 1) := by decide +kernel
theorem g181_7 : mC xm181 7 = some (.if_icmp .gt 7, 3) := by decide +kernel
theorem g181_10 : mC xm181 10 = some (.iconst 1, 1) := by decide +kernel
theorem g181_11 : mC xm181 11 = some (.goto 4, 3) := by decide +kernel
theorem g181_14 : mC xm181 14 = some (.iconst 0, 1) := by decide +kernel
theorem g181_15 : mC xm181 15 = some (.ireturn, 1) := by decide +kernel
theorem g196_0 : mC xm196 0 = some (.iload_n 0, 1) := by decide +kernel
theorem g196_1 : mC xm196 1 = some (.sipush 1900, 3) := by decide +kernel
theorem g196_4 : mC xm196 4 = some (.sipush 2099, 3) := by decide +kernel
theorem g196_7 : mC xm196 7 = some (.invokestatic 175, 3) := by decide +kernel
theorem g196_10 : mC xm196 10 = some (.ireturn, 1) := by decide +kernel
theorem g197_0 : mC xm197 0 = some (.iload_n 0, 1) := by decide +kernel
theorem g197_1 : mC xm197 1 = some (.iconst 4, 1) := by decide +kernel
theorem g197_2 : mC xm197 2 = some (.irem, 1) := by decide +kernel
theorem g197_3 : mC xm197 3 = some (.ifCond .ne 31, 3) := by decide +kernel
theorem g197_6 : mC xm197 6 = some (.iload_n 1, 1) := by decide +kernel
theorem g197_7 : mC xm197 7 = some (.ifCond .eq 23, 3) := by decide +kernel
theorem g197_10 : mC xm197 10 = some (.iload_n 0, 1) := by decide +kernel
theorem g197_11 : mC xm197 11 = some (.bipush 100, 2) := by decide +kernel
theorem g197_13 : mC xm197 13 = some (.irem, 1) := by decide +kernel
theorem g197_14 : mC xm197 14 = some (.ifCond .ne 16, 3) := by decide +kernel
theorem g197_17 : mC xm197 17 = some (.iload_n 1, 1) := by decide +kernel
theorem g197_18 : mC xm197 18 = some (.iconst 2, 1) := by decide +kernel
theorem g197_19 : mC xm197 19 = some (.if_icmp .ne 15, 3) := by decide +kernel
theorem g197_22 : mC xm197 22 = some (.iload_n 0, 1) := by decide +kernel
theorem g197_23 : mC xm197 23 = some (.sipush 400, 3) := by decide +kernel
theorem g197_26 : mC xm197 26 = some (.irem, 1) := by decide +kernel
theorem g197_27 : mC xm197 27 = some (.ifCond .ne 7, 3) := by decide +kernel
theorem g197_30 : mC xm197 30 = some (.iconst 1, 1) := by decide +kernel
theorem g197_31 : mC xm197 31 = some (.goto 4, 3) := by decide +kernel
theorem g197_34 : mC xm197 34 = some (.iconst 0, 1) := by decide +kernel
theorem g197_35 : mC xm197 35 = some (.ireturn, 1) := by decide +kernel
theorem g199_0 : mC xm199 0 = some (.iload_n 1, 1) := by decide +kernel
theorem g199_1 : mC xm199 1 = some (.iconst 2, 1) := by decide +kernel
theorem g199_2 : mC xm199 2 = some (.if_icmp .ne 28, 3) := by decide +kernel
theorem g199_5 : mC xm199 5 = some (.iload_n 2, 1) := by decide +kernel
theorem g199_6 : mC xm199 6 = some (.ifCond .lt 24, 3) := by decide +kernel
theorem g199_30 : mC xm199 30 = some (.iload_n 0, 1) := by decide +kernel
theorem g199_31 : mC xm199 31 = some (.ireturn, 1) := by decide +kernel
theorem g202_0 : mC xm202 0 = some (.aload_n 0, 1) := by decide +kernel
theorem g202_1 : mC xm202 1 = some (.iload_n 1, 1) := by decide +kernel
theorem g202_2 : mC xm202 2 = some (.iload_n 2, 1) := by decide +kernel
theorem g202_3 : mC xm202 3 = some (.invokevirtual 315, 3) := by decide +kernel
theorem g202_6 : mC xm202 6 = some (.aload_n 0, 1) := by decide +kernel
theorem g202_7 : mC xm202 7 = some (.getfield 136, 3) := by decide +kernel
theorem g202_10 : mC xm202 10 = some (.iconst 0, 1) := by decide +kernel
theorem g202_11 : mC xm202 11 = some (.aaload, 1) := by decide +kernel
theorem g202_12 : mC xm202 12 = some (.iconst 0, 1) := by decide +kernel
theorem g202_13 : mC xm202 13 = some (.aload_n 0, 1) := by decide +kernel
theorem g202_14 : mC xm202 14 = some (.getfield 48, 3) := by decide +kernel
theorem g202_17 : mC xm202 17 = some (.iload_n 1, 1) := by decide +kernel
theorem g202_18 : mC xm202 18 = some (.aaload, 1) := by decide +kernel
theorem g202_19 : mC xm202 19 = some (.iconst 0, 1) := by decide +kernel
theorem g202_20 : mC xm202 20 = some (.bipush 12, 2) := by decide +kernel
theorem g202_22 : mC xm202 22 = some (.invokestatic 262, 3) := by decide +kernel
theorem g202_25 : mC xm202 25 = some (.aload_n 0, 1) := by decide +kernel
theorem g202_26 : mC xm202 26 = some (.getfield 136, 3) := by decide +kernel
theorem g202_29 : mC xm202 29 = some (.iconst 1, 1) := by decide +kernel
theorem g202_30 : mC xm202 30 = some (.aaload, 1) := by decide +kernel
theorem g202_31 : mC xm202 31 = some (.iconst 0, 1) := by decide +kernel
theorem g202_32 : mC xm202 32 = some (.aload_n 0, 1) := by decide +kernel
theorem g202_33 : mC xm202 33 = some (.getfield 54, 3) := by decide +kernel
theorem g202_36 : mC xm202 36 = some (.iload_n 1, 1) := by decide +kernel
theorem g202_37 : mC xm202 37 = some (.aaload, 1) := by decide +kernel
theorem g202_38 : mC xm202 38 = some (.iconst 0, 1) := by decide +kernel
theorem g202_39 : mC xm202 39 = some (.bipush 12, 2) := by decide +kernel
theorem g202_41 : mC xm202 41 = some (.invokestatic 262, 3) := by decide +kernel
theorem g202_44 : mC xm202 44 = some (.aload_n 0, 1) := by decide +kernel
theorem g202_45 : mC xm202 45 = some (.getfield 51, 3) := by decide +kernel
theorem g202_48 : mC xm202 48 = some (.iload_n 1, 1) := by decide +kernel
theorem g202_49 : mC xm202 49 = some (.aload_n 0, 1) := by decide +kernel
theorem g202_50 : mC xm202 50 = some (.getfield 139, 3) := by decide +kernel
theorem g202_53 : mC xm202 53 = some (.iconst 0, 1) := by decide +kernel
theorem g202_54 : mC xm202 54 = some (.iaload, 1) := by decide +kernel
theorem g202_55 : mC xm202 55 = some (.iastore, 1) := by decide +kernel
theorem g202_56 : mC xm202 56 = some (.aload_n 0, 1) := by decide +kernel
theorem g202_57 : mC xm202 57 = some (.getfield 57, 3) := by decide +kernel
theorem g202_60 : mC xm202 60 = some (.iload_n 1, 1) := by decide +kernel
theorem g202_61 : mC xm202 61 = some (.aload_n 0, 1) := by decide +kernel
theorem g202_62 : mC xm202 62 = some (.getfield 139, 3) := by decide +kernel
theorem g202_65 : mC xm202 65 = some (.iconst 1, 1) := by decide +kernel
theorem g202_66 : mC xm202 66 = some (.iaload, 1) := by decide +kernel
theorem g202_67 : mC xm202 67 = some (.iastore, 1) := by decide +kernel
theorem g202_68 : mC xm202 68 = some (.aload_n 0, 1) := by decide +kernel
theorem g202_69 : mC xm202 69 = some (.getfield 133, 3) := by decide +kernel
theorem g202_72 : mC xm202 72 = some (.iconst 0, 1) := by decide +kernel
theorem g202_73 : mC xm202 73 = some (.iaload, 1) := by decide +kernel
theorem g202_74 : mC xm202 74 = some (.aload_n 0, 1) := by decide +kernel
theorem g202_75 : mC xm202 75 = some (.getfield 133, 3) := by decide +kernel
theorem g202_78 : mC xm202 78 = some (.iconst 1, 1) := by decide +kernel
theorem g202_79 : mC xm202 79 = some (.iaload, 1) := by decide +kernel
theorem g202_80 : mC xm202 80 = some (.if_icmp .ne 33, 3) := by decide +kernel
theorem g202_83 : mC xm202 83 = some (.aload_n 0, 1) := by decide +kernel
theorem g202_84 : mC xm202 84 = some (.getfield 48, 3) := by decide +kernel
theorem g202_87 : mC xm202 87 = some (.iload_n 1, 1) := by decide +kernel
theorem g202_88 : mC xm202 88 = some (.aaload, 1) := by decide +kernel
theorem g202_89 : mC xm202 89 = some (.aload_n 0, 1) := by decide +kernel
theorem g202_90 : mC xm202 90 = some (.getfield 51, 3) := by decide +kernel
theorem g202_93 : mC xm202 93 = some (.iload_n 1, 1) := by decide +kernel
theorem g202_94 : mC xm202 94 = some (.iaload, 1) := by decide +kernel
theorem g202_95 : mC xm202 95 = some (.aload_n 0, 1) := by decide +kernel
theorem g202_96 : mC xm202 96 = some (.getfield 54, 3) := by decide +kernel
theorem g202_99 : mC xm202 99 = some (.iload_n 1, 1) := by decide +kernel
theorem g202_100 : mC xm202 100 = some (.aaload, 1) := by decide +kernel
theorem g202_101 : mC xm202 101 = some (.aload_n 0, 1) := by decide +kernel
theorem g202_102 : mC xm202 102 = some (.getfield 57, 3) := by decide +kernel
theorem g202_105 : mC xm202 105 = some (.iload_n 1, 1) := by decide +kernel
theorem g202_106 : mC xm202 106 = some (.iaload, 1) := by decide +kernel
theorem g202_107 : mC xm202 107 = some (.invokestatic 319, 3) := by decide +kernel
theorem g202_110 : mC xm202 110 = some (.ifCond .ne 7, 3) := by decide +kernel
theorem g202_113 : mC xm202 113 = some (.iconst 1, 1) := by decide +kernel
theorem g202_114 : mC xm202 114 = some (.goto 4, 3) := by decide +kernel
theorem g202_117 : mC xm202 117 = some (.iconst 0, 1) := by decide +kernel
theorem g202_118 : mC xm202 118 = some (.ireturn, 1) := by decide +kernel
theorem g203_0 : mC xm203 0 = some (.aload_n 0, 1) := by decide +kernel
theorem g203_1 : mC xm203 1 = some (.iconst 0, 1) := by decide +kernel
theorem g203_2 : mC xm203 2 = some (.invokevirtual 304, 3) := by decide +kernel
theorem g203_5 : mC xm203 5 = some (.aload_n 0, 1) := by decide +kernel
theorem g203_6 : mC xm203 6 = some (.iconst 1, 1) := by decide +kernel
theorem g203_7 : mC xm203 7 = some (.invokevirtual 304, 3) := by decide +kernel
theorem g203_10 : mC xm203 10 = some (.aload_n 0, 1) := by decide +kernel
theorem g203_11 : mC xm203 11 = some (.iconst (-1), 1) := by decide +kernel
theorem g203_12 : mC xm203 12 = some (.putfield 308, 3) := by decide +kernel
theorem g203_15 : mC xm203 15 = some (.iconst 1, 1) := by decide +kernel
theorem g203_16 : mC xm203 16 = some (.istore_n 3, 1) := by decide +kernel
theorem g203_17 : mC xm203 17 = some (.aload_n 0, 1) := by decide +kernel
theorem g203_18 : mC xm203 18 = some (.getfield 133, 3) := by decide +kernel
theorem g203_21 : mC xm203 21 = some (.iconst 0, 1) := by decide +kernel
theorem g203_22 : mC xm203 22 = some (.iaload, 1) := by decide +kernel
theorem g203_23 : mC xm203 23 = some (.ifCond .lt 12, 3) := by decide +kernel
theorem g203_26 : mC xm203 26 = some (.aload_n 0, 1) := by decide +kernel
theorem g203_27 : mC xm203 27 = some (.getfield 133, 3) := by decide +kernel
theorem g203_30 : mC xm203 30 = some (.iconst 1, 1) := by decide +kernel
theorem g203_31 : mC xm203 31 = some (.iaload, 1) := by decide +kernel
theorem g203_32 : mC xm203 32 = some (.ifCond .ge 192, 3) := by decide +kernel
theorem g203_35 : mC xm203 35 = some (.aload_n 0, 1) := by decide +kernel
theorem g203_36 : mC xm203 36 = some (.getfield 124, 3) := by decide +kernel
theorem g203_39 : mC xm203 39 = some (.iconst 0, 1) := by decide +kernel
theorem g203_40 : mC xm203 40 = some (.iaload, 1) := by decide +kernel
theorem g203_41 : mC xm203 41 = some (.istore 4, 2) := by decide +kernel
theorem g203_43 : mC xm203 43 = some (.iload_n 3, 1) := by decide +kernel
theorem g203_44 : mC xm203 44 = some (.ifCond .eq 144, 3) := by decide +kernel
theorem g203_47 : mC xm203 47 = some (.aload_n 0, 1) := by decide +kernel
theorem g203_48 : mC xm203 48 = some (.getfield 15, 3) := by decide +kernel
theorem g203_51 : mC xm203 51 = some (.iload_n 1, 1) := by decide +kernel
theorem g203_52 : mC xm203 52 = some (.aaload, 1) := by decide +kernel
theorem g203_53 : mC xm203 53 = some (.iconst 4, 1) := by decide +kernel
theorem g203_54 : mC xm203 54 = some (.iload 4, 2) := by decide +kernel
theorem g203_56 : mC xm203 56 = some (.imul, 1) := by decide +kernel
theorem g203_57 : mC xm203 57 = some (.iaload, 1) := by decide +kernel
theorem g203_58 : mC xm203 58 = some (.iconst 2, 1) := by decide +kernel
theorem g203_59 : mC xm203 59 = some (.if_icmp .ne 7, 3) := by decide +kernel
theorem g203_62 : mC xm203 62 = some (.iconst 1, 1) := by decide +kernel
theorem g203_63 : mC xm203 63 = some (.goto 4, 3) := by decide +kernel
theorem g203_66 : mC xm203 66 = some (.iconst 0, 1) := by decide +kernel
theorem g203_67 : mC xm203 67 = some (.istore 5, 2) := by decide +kernel
theorem g203_69 : mC xm203 69 = some (.aload_n 0, 1) := by decide +kernel
theorem g203_70 : mC xm203 70 = some (.iload_n 1, 1) := by decide +kernel
theorem g203_71 : mC xm203 71 = some (.iload_n 2, 1) := by decide +kernel
theorem g203_72 : mC xm203 72 = some (.iconst 0, 1) := by decide +kernel
theorem g203_73 : mC xm203 73 = some (.invokevirtual 311, 3) := by decide +kernel
theorem g203_76 : mC xm203 76 = some (.aload_n 0, 1) := by decide +kernel
theorem g203_77 : mC xm203 77 = some (.iload_n 1, 1) := by decide +kernel
theorem g203_78 : mC xm203 78 = some (.iload_n 2, 1) := by decide +kernel
theorem g203_79 : mC xm203 79 = some (.iconst 1, 1) := by decide +kernel
theorem g203_80 : mC xm203 80 = some (.invokevirtual 311, 3) := by decide +kernel
theorem g203_83 : mC xm203 83 = some (.aload_n 0, 1) := by decide +kernel
theorem g203_84 : mC xm203 84 = some (.getfield 133, 3) := by decide +kernel
theorem g203_87 : mC xm203 87 = some (.iconst 0, 1) := by decide +kernel
theorem g203_88 : mC xm203 88 = some (.iaload, 1) := by decide +kernel
theorem g203_89 : mC xm203 89 = some (.aload_n 0, 1) := by decide +kernel
theorem g203_90 : mC xm203 90 = some (.getfield 133, 3) := by decide +kernel
theorem g203_93 : mC xm203 93 = some (.iconst 1, 1) := by decide +kernel
theorem g203_94 : mC xm203 94 = some (.iaload, 1) := by decide +kernel
theorem g203_95 : mC xm203 95 = some (.if_icmp .ne 57, 3) := by decide +kernel
theorem g203_98 : mC xm203 98 = some (.aload_n 0, 1) := by decide +kernel
theorem g203_99 : mC xm203 99 = some (.getfield 133, 3) := by decide +kernel
theorem g203_102 : mC xm203 102 = some (.iconst 0, 1) := by decide +kernel
theorem g203_103 : mC xm203 103 = some (.iaload, 1) := by decide +kernel
theorem g203_104 : mC xm203 104 = some (.ifCond .ge 18, 3) := by decide +kernel
theorem g203_107 : mC xm203 107 = some (.aload_n 0, 1) := by decide +kernel
theorem g203_108 : mC xm203 108 = some (.getfield 124, 3) := by decide +kernel
theorem g203_111 : mC xm203 111 = some (.iconst 0, 1) := by decide +kernel
theorem g203_112 : mC xm203 112 = some (.iaload, 1) := by decide +kernel
theorem g203_113 : mC xm203 113 = some (.aload_n 0, 1) := by decide +kernel
theorem g203_114 : mC xm203 114 = some (.getfield 124, 3) := by decide +kernel
theorem g203_117 : mC xm203 117 = some (.iconst 1, 1) := by decide +kernel
theorem g203_118 : mC xm203 118 = some (.iaload, 1) := by decide +kernel
theorem g203_119 : mC xm203 119 = some (.if_icmp .ne 33, 3) := by decide +kernel
theorem g203_122 : mC xm203 122 = some (.iload 5, 2) := by decide +kernel
theorem g203_124 : mC xm203 124 = some (.ifCond .eq 32, 3) := by decide +kernel
theorem g203_127 : mC xm203 127 = some (.aload_n 0, 1) := by decide +kernel
theorem g203_128 : mC xm203 128 = some (.getfield 133, 3) := by decide +kernel
theorem g203_131 : mC xm203 131 = some (.iconst 0, 1) := by decide +kernel
theorem g203_132 : mC xm203 132 = some (.iaload, 1) := by decide +kernel
theorem g203_133 : mC xm203 133 = some (.iconst 1, 1) := by decide +kernel
theorem g203_134 : mC xm203 134 = some (.if_icmp .eq 22, 3) := by decide +kernel
theorem g203_137 : mC xm203 137 = some (.aload_n 0, 1) := by decide +kernel
theorem g203_138 : mC xm203 138 = some (.getfield 142, 3) := by decide +kernel
theorem g203_141 : mC xm203 141 = some (.iconst 0, 1) := by decide +kernel
theorem g203_142 : mC xm203 142 = some (.iaload, 1) := by decide +kernel
theorem g203_143 : mC xm203 143 = some (.aload_n 0, 1) := by decide +kernel
theorem g203_144 : mC xm203 144 = some (.getfield 142, 3) := by decide +kernel
theorem g203_147 : mC xm203 147 = some (.iconst 1, 1) := by decide +kernel
theorem g203_148 : mC xm203 148 = some (.iaload, 1) := by decide +kernel
theorem g203_149 : mC xm203 149 = some (.if_icmp .eq 7, 3) := by decide +kernel
theorem g203_152 : mC xm203 152 = some (.iconst 1, 1) := by decide +kernel
theorem g203_153 : mC xm203 153 = some (.goto 4, 3) := by decide +kernel
theorem g203_156 : mC xm203 156 = some (.iconst 0, 1) := by decide +kernel
theorem g203_157 : mC xm203 157 = some (.istore 6, 2) := by decide +kernel
theorem g203_159 : mC xm203 159 = some (.aload_n 0, 1) := by decide +kernel
theorem g203_160 : mC xm203 160 = some (.iload 6, 2) := by decide +kernel
theorem g203_162 : mC xm203 162 = some (.ifCond .eq 8, 3) := by decide +kernel
theorem g203_165 : mC xm203 165 = some (.iload 4, 2) := by decide +kernel
theorem g203_167 : mC xm203 167 = some (.goto 4, 3) := by decide +kernel
theorem g203_170 : mC xm203 170 = some (.iconst (-1), 1) := by decide +kernel
theorem g203_171 : mC xm203 171 = some (.putfield 308, 3) := by decide +kernel
theorem g203_174 : mC xm203 174 = some (.iload 6, 2) := by decide +kernel
theorem g203_176 : mC xm203 176 = some (.ifCond .ne 7, 3) := by decide +kernel
theorem g203_179 : mC xm203 179 = some (.iconst 1, 1) := by decide +kernel
theorem g203_180 : mC xm203 180 = some (.goto 4, 3) := by decide +kernel
theorem g203_183 : mC xm203 183 = some (.iconst 0, 1) := by decide +kernel
theorem g203_184 : mC xm203 184 = some (.istore_n 3, 1) := by decide +kernel
theorem g203_185 : mC xm203 185 = some (.goto (-168), 3) := by decide +kernel
theorem g203_188 : mC xm203 188 = some (.iconst 0, 1) := by decide +kernel
theorem g203_189 : mC xm203 189 = some (.istore 5, 2) := by decide +kernel
theorem g203_191 : mC xm203 191 = some (.iload 5, 2) := by decide +kernel
theorem g203_193 : mC xm203 193 = some (.iconst 2, 1) := by decide +kernel
theorem g203_194 : mC xm203 194 = some (.if_icmp .ge 27, 3) := by decide +kernel
theorem g203_197 : mC xm203 197 = some (.aload_n 0, 1) := by decide +kernel
theorem g203_198 : mC xm203 198 = some (.getfield 133, 3) := by decide +kernel
theorem g203_201 : mC xm203 201 = some (.iload 5, 2) := by decide +kernel
theorem g203_203 : mC xm203 203 = some (.iaload, 1) := by decide +kernel
theorem g203_204 : mC xm203 204 = some (.ifCond .ge 11, 3) := by decide +kernel
theorem g203_207 : mC xm203 207 = some (.aload_n 0, 1) := by decide +kernel
theorem g203_208 : mC xm203 208 = some (.iload_n 1, 1) := by decide +kernel
theorem g203_209 : mC xm203 209 = some (.iload_n 2, 1) := by decide +kernel
theorem g203_210 : mC xm203 210 = some (.iload 5, 2) := by decide +kernel
theorem g203_212 : mC xm203 212 = some (.invokevirtual 311, 3) := by decide +kernel
theorem g203_215 : mC xm203 215 = some (.iinc 5 1, 3) := by decide +kernel
theorem g203_218 : mC xm203 218 = some (.goto (-27), 3) := by decide +kernel
theorem g203_221 : mC xm203 221 = some (.goto (-204), 3) := by decide +kernel
theorem g203_224 : mC xm203 224 = some (.return_, 1) := by decide +kernel
theorem g204_0 : mC xm204 0 = some (.iconst 0, 1) := by decide +kernel
theorem g204_1 : mC xm204 1 = some (.istore_n 2, 1) := by decide +kernel
theorem g204_2 : mC xm204 2 = some (.iload_n 2, 1) := by decide +kernel
theorem g204_3 : mC xm204 3 = some (.bipush 6, 2) := by decide +kernel
theorem g204_5 : mC xm204 5 = some (.if_icmp .ge 18, 3) := by decide +kernel
theorem g204_8 : mC xm204 8 = some (.aload_n 0, 1) := by decide +kernel
theorem g204_9 : mC xm204 9 = some (.getfield 121, 3) := by decide +kernel
theorem g204_12 : mC xm204 12 = some (.iload_n 1, 1) := by decide +kernel
theorem g204_13 : mC xm204 13 = some (.aaload, 1) := by decide +kernel
theorem g204_14 : mC xm204 14 = some (.iload_n 2, 1) := by decide +kernel
theorem g204_15 : mC xm204 15 = some (.iconst 0, 1) := by decide +kernel
theorem g204_16 : mC xm204 16 = some (.iastore, 1) := by decide +kernel
theorem g204_17 : mC xm204 17 = some (.iinc 2 1, 3) := by decide +kernel
theorem g204_20 : mC xm204 20 = some (.goto (-18), 3) := by decide +kernel
theorem g204_23 : mC xm204 23 = some (.aload_n 0, 1) := by decide +kernel
theorem g204_24 : mC xm204 24 = some (.getfield 124, 3) := by decide +kernel
theorem g204_27 : mC xm204 27 = some (.iload_n 1, 1) := by decide +kernel
theorem g204_28 : mC xm204 28 = some (.iconst 0, 1) := by decide +kernel
theorem g204_29 : mC xm204 29 = some (.iastore, 1) := by decide +kernel
theorem g204_30 : mC xm204 30 = some (.aload_n 0, 1) := by decide +kernel
theorem g204_31 : mC xm204 31 = some (.getfield 127, 3) := by decide +kernel
theorem g204_34 : mC xm204 34 = some (.iload_n 1, 1) := by decide +kernel
theorem g204_35 : mC xm204 35 = some (.iconst 0, 1) := by decide +kernel
theorem g204_36 : mC xm204 36 = some (.iastore, 1) := by decide +kernel
theorem g204_37 : mC xm204 37 = some (.aload_n 0, 1) := by decide +kernel
theorem g204_38 : mC xm204 38 = some (.getfield 130, 3) := by decide +kernel
theorem g204_41 : mC xm204 41 = some (.iload_n 1, 1) := by decide +kernel
theorem g204_42 : mC xm204 42 = some (.iconst 0, 1) := by decide +kernel
theorem g204_43 : mC xm204 43 = some (.iastore, 1) := by decide +kernel
theorem g204_44 : mC xm204 44 = some (.aload_n 0, 1) := by decide +kernel
theorem g204_45 : mC xm204 45 = some (.getfield 133, 3) := by decide +kernel
theorem g204_48 : mC xm204 48 = some (.iload_n 1, 1) := by decide +kernel
theorem g204_49 : mC xm204 49 = some (.iconst (-1), 1) := by decide +kernel
theorem g204_50 : mC xm204 50 = some (.iastore, 1) := by decide +kernel
theorem g204_51 : mC xm204 51 = some (.aload_n 0, 1) := by decide +kernel
theorem g204_52 : mC xm204 52 = some (.getfield 139, 3) := by decide +kernel
theorem g204_55 : mC xm204 55 = some (.iload_n 1, 1) := by decide +kernel
theorem g204_56 : mC xm204 56 = some (.iconst 0, 1) := by decide +kernel
theorem g204_57 : mC xm204 57 = some (.iastore, 1) := by decide +kernel
theorem g204_58 : mC xm204 58 = some (.return_, 1) := by decide +kernel
theorem g205_0 : mC xm205 0 = some (.aload_n 0, 1) := by decide +kernel
theorem g205_1 : mC xm205 1 = some (.getfield 15, 3) := by decide +kernel
theorem g205_4 : mC xm205 4 = some (.iload_n 1, 1) := by decide +kernel
theorem g205_5 : mC xm205 5 = some (.aaload, 1) := by decide +kernel
theorem g205_6 : mC xm205 6 = some (.astore 4, 2) := by decide +kernel
theorem g205_8 : mC xm205 8 = some (.iconst 4, 1) := by decide +kernel
theorem g205_9 : mC xm205 9 = some (.aload_n 0, 1) := by decide +kernel
theorem g205_10 : mC xm205 10 = some (.getfield 124, 3) := by decide +kernel
theorem g205_13 : mC xm205 13 = some (.iload_n 3, 1) := by decide +kernel
theorem g205_14 : mC xm205 14 = some (.iaload, 1) := by decide +kernel
theorem g205_15 : mC xm205 15 = some (.imul, 1) := by decide +kernel
theorem g205_16 : mC xm205 16 = some (.istore 5, 2) := by decide +kernel
theorem g205_18 : mC xm205 18 = some (.aload_n 0, 1) := by decide +kernel
theorem g205_19 : mC xm205 19 = some (.getfield 121, 3) := by decide +kernel
theorem g205_22 : mC xm205 22 = some (.iload_n 3, 1) := by decide +kernel
theorem g205_23 : mC xm205 23 = some (.aaload, 1) := by decide +kernel
theorem g205_24 : mC xm205 24 = some (.astore 6, 2) := by decide +kernel
theorem g205_26 : mC xm205 26 = some (.aload_n 0, 1) := by decide +kernel
theorem g205_27 : mC xm205 27 = some (.getfield 124, 3) := by decide +kernel
theorem g205_30 : mC xm205 30 = some (.iload_n 3, 1) := by decide +kernel
theorem g205_31 : mC xm205 31 = some (.iaload, 1) := by decide +kernel
theorem g205_32 : mC xm205 32 = some (.iconst 1, 1) := by decide +kernel
theorem g205_33 : mC xm205 33 = some (.iadd, 1) := by decide +kernel
theorem g205_34 : mC xm205 34 = some (.istore 7, 2) := by decide +kernel
theorem g205_36 : mC xm205 36 = some (.aload_n 0, 1) := by decide +kernel
theorem g205_37 : mC xm205 37 = some (.getfield 130, 3) := by decide +kernel
theorem g205_40 : mC xm205 40 = some (.iload_n 3, 1) := by decide +kernel
theorem g205_41 : mC xm205 41 = some (.dup2, 1) := by decide +kernel
theorem g205_42 : mC xm205 42 = some (.iaload, 1) := by decide +kernel
theorem g205_43 : mC xm205 43 = some (.iconst 1, 1) := by decide +kernel
theorem g205_44 : mC xm205 44 = some (.iadd, 1) := by decide +kernel
theorem g205_45 : mC xm205 45 = some (.iastore, 1) := by decide +kernel
theorem g205_46 : mC xm205 46 = some (.aload 4, 2) := by decide +kernel
theorem g205_48 : mC xm205 48 = some (.iload 5, 2) := by decide +kernel
theorem g205_50 : mC xm205 50 = some (.iaload, 1) := by decide +kernel
theorem g205_51 : mC xm205 51 = some (.tableswitch (522) (0) (10) #[(57), (84), (155), (222), (255), (291), (338), (385), (431), (477), (510)], 57) := by decide +kernel
theorem g205_108 : mC xm205 108 = some (.aload 6, 2) := by decide +kernel
theorem g205_110 : mC xm205 110 = some (.aload 4, 2) := by decide +kernel
theorem g205_112 : mC xm205 112 = some (.iload 5, 2) := by decide +kernel
theorem g205_114 : mC xm205 114 = some (.iconst 1, 1) := by decide +kernel
theorem g205_115 : mC xm205 115 = some (.iadd, 1) := by decide +kernel
theorem g205_116 : mC xm205 116 = some (.iaload, 1) := by decide +kernel
theorem g205_117 : mC xm205 117 = some (.aload_n 0, 1) := by decide +kernel
theorem g205_118 : mC xm205 118 = some (.iload_n 1, 1) := by decide +kernel
theorem g205_119 : mC xm205 119 = some (.aload 4, 2) := by decide +kernel
theorem g205_121 : mC xm205 121 = some (.iload 5, 2) := by decide +kernel
theorem g205_123 : mC xm205 123 = some (.iconst 1, 1) := by decide +kernel
theorem g205_124 : mC xm205 124 = some (.iadd, 1) := by decide +kernel
theorem g205_125 : mC xm205 125 = some (.iaload, 1) := by decide +kernel
theorem g205_126 : mC xm205 126 = some (.iload_n 2, 1) := by decide +kernel
theorem g205_127 : mC xm205 127 = some (.iload_n 3, 1) := by decide +kernel
theorem g205_128 : mC xm205 128 = some (.invokevirtual 291, 3) := by decide +kernel
theorem g205_131 : mC xm205 131 = some (.iastore, 1) := by decide +kernel
theorem g205_132 : mC xm205 132 = some (.goto 445, 3) := by decide +kernel
theorem g205_135 : mC xm205 135 = some (.aload_n 0, 1) := by decide +kernel
theorem g205_136 : mC xm205 136 = some (.getfield 127, 3) := by decide +kernel
theorem g205_139 : mC xm205 139 = some (.iload_n 3, 1) := by decide +kernel
theorem g205_140 : mC xm205 140 = some (.iaload, 1) := by decide +kernel
theorem g205_141 : mC xm205 141 = some (.aload_n 0, 1) := by decide +kernel
theorem g205_142 : mC xm205 142 = some (.iload_n 1, 1) := by decide +kernel
theorem g205_143 : mC xm205 143 = some (.iload_n 3, 1) := by decide +kernel
theorem g205_144 : mC xm205 144 = some (.invokevirtual 295, 3) := by decide +kernel
theorem g205_147 : mC xm205 147 = some (.if_icmp .ne 11, 3) := by decide +kernel
theorem g205_150 : mC xm205 150 = some (.aload_n 0, 1) := by decide +kernel
theorem g205_151 : mC xm205 151 = some (.getfield 133, 3) := by decide +kernel
theorem g205_154 : mC xm205 154 = some (.iload_n 3, 1) := by decide +kernel
theorem g205_155 : mC xm205 155 = some (.iconst 1, 1) := by decide +kernel
theorem g205_156 : mC xm205 156 = some (.iastore, 1) := by decide +kernel
theorem g205_157 : mC xm205 157 = some (.return_, 1) := by decide +kernel
theorem g205_158 : mC xm205 158 = some (.aload 6, 2) := by decide +kernel
theorem g205_160 : mC xm205 160 = some (.aload 4, 2) := by decide +kernel
theorem g205_162 : mC xm205 162 = some (.iload 5, 2) := by decide +kernel
theorem g205_164 : mC xm205 164 = some (.iconst 1, 1) := by decide +kernel
theorem g205_165 : mC xm205 165 = some (.iadd, 1) := by decide +kernel
theorem g205_166 : mC xm205 166 = some (.iaload, 1) := by decide +kernel
theorem g205_167 : mC xm205 167 = some (.aload_n 0, 1) := by decide +kernel
theorem g205_168 : mC xm205 168 = some (.iload_n 1, 1) := by decide +kernel
theorem g205_169 : mC xm205 169 = some (.aload 4, 2) := by decide +kernel
theorem g205_171 : mC xm205 171 = some (.iload 5, 2) := by decide +kernel
theorem g205_173 : mC xm205 173 = some (.iconst 1, 1) := by decide +kernel
theorem g205_174 : mC xm205 174 = some (.iadd, 1) := by decide +kernel
theorem g205_175 : mC xm205 175 = some (.iaload, 1) := by decide +kernel
theorem g205_176 : mC xm205 176 = some (.aload_n 0, 1) := by decide +kernel
theorem g205_177 : mC xm205 177 = some (.iload_n 1, 1) := by decide +kernel
theorem g205_178 : mC xm205 178 = some (.aload_n 0, 1) := by decide +kernel
theorem g205_179 : mC xm205 179 = some (.getfield 127, 3) := by decide +kernel
theorem g205_182 : mC xm205 182 = some (.iload_n 3, 1) := by decide +kernel
theorem g205_183 : mC xm205 183 = some (.iaload, 1) := by decide +kernel
theorem g205_184 : mC xm205 184 = some (.iload_n 3, 1) := by decide +kernel
theorem g205_185 : mC xm205 185 = some (.invokevirtual 298, 3) := by decide +kernel
theorem g205_188 : mC xm205 188 = some (.iload_n 3, 1) := by decide +kernel
theorem g205_189 : mC xm205 189 = some (.invokevirtual 291, 3) := by decide +kernel
theorem g205_192 : mC xm205 192 = some (.iastore, 1) := by decide +kernel
theorem g205_193 : mC xm205 193 = some (.aload_n 0, 1) := by decide +kernel
theorem g205_194 : mC xm205 194 = some (.getfield 127, 3) := by decide +kernel
theorem g205_197 : mC xm205 197 = some (.iload_n 3, 1) := by decide +kernel
theorem g205_198 : mC xm205 198 = some (.dup2, 1) := by decide +kernel
theorem g205_199 : mC xm205 199 = some (.iaload, 1) := by decide +kernel
theorem g205_200 : mC xm205 200 = some (.iconst 1, 1) := by decide +kernel
theorem g205_201 : mC xm205 201 = some (.iadd, 1) := by decide +kernel
theorem g205_202 : mC xm205 202 = some (.iastore, 1) := by decide +kernel
theorem g205_203 : mC xm205 203 = some (.goto 374, 3) := by decide +kernel
theorem g205_206 : mC xm205 206 = some (.aload_n 0, 1) := by decide +kernel
theorem g205_207 : mC xm205 207 = some (.getfield 139, 3) := by decide +kernel
theorem g205_210 : mC xm205 210 = some (.iload_n 3, 1) := by decide +kernel
theorem g205_211 : mC xm205 211 = some (.iaload, 1) := by decide +kernel
theorem g205_212 : mC xm205 212 = some (.bipush 12, 2) := by decide +kernel
theorem g205_214 : mC xm205 214 = some (.if_icmp .ne 11, 3) := by decide +kernel
theorem g205_217 : mC xm205 217 = some (.aload_n 0, 1) := by decide +kernel
theorem g205_218 : mC xm205 218 = some (.getfield 133, 3) := by decide +kernel
theorem g205_221 : mC xm205 221 = some (.iload_n 3, 1) := by decide +kernel
theorem g205_222 : mC xm205 222 = some (.iconst 1, 1) := by decide +kernel
theorem g205_223 : mC xm205 223 = some (.iastore, 1) := by decide +kernel
theorem g205_224 : mC xm205 224 = some (.return_, 1) := by decide +kernel
theorem g205_225 : mC xm205 225 = some (.aload_n 0, 1) := by decide +kernel
theorem g205_226 : mC xm205 226 = some (.getfield 142, 3) := by decide +kernel
theorem g205_229 : mC xm205 229 = some (.iload_n 3, 1) := by decide +kernel
theorem g205_230 : mC xm205 230 = some (.aload 6, 2) := by decide +kernel
theorem g205_232 : mC xm205 232 = some (.aload 4, 2) := by decide +kernel
theorem g205_234 : mC xm205 234 = some (.iload 5, 2) := by decide +kernel
theorem g205_236 : mC xm205 236 = some (.iconst 1, 1) := by decide +kernel
theorem g205_237 : mC xm205 237 = some (.iadd, 1) := by decide +kernel
theorem g205_238 : mC xm205 238 = some (.iaload, 1) := by decide +kernel
theorem g205_239 : mC xm205 239 = some (.iaload, 1) := by decide +kernel
theorem g205_240 : mC xm205 240 = some (.iastore, 1) := by decide +kernel
theorem g205_241 : mC xm205 241 = some (.aload_n 0, 1) := by decide +kernel
theorem g205_242 : mC xm205 242 = some (.getfield 136, 3) := by decide +kernel
theorem g205_245 : mC xm205 245 = some (.iload_n 3, 1) := by decide +kernel
theorem g205_246 : mC xm205 246 = some (.aaload, 1) := by decide +kernel
theorem g205_247 : mC xm205 247 = some (.aload_n 0, 1) := by decide +kernel
theorem g205_248 : mC xm205 248 = some (.getfield 139, 3) := by decide +kernel
theorem g205_251 : mC xm205 251 = some (.iload_n 3, 1) := by decide +kernel
theorem g205_252 : mC xm205 252 = some (.iaload, 1) := by decide +kernel
theorem g205_253 : mC xm205 253 = some (.aload_n 0, 1) := by decide +kernel
theorem g205_254 : mC xm205 254 = some (.getfield 142, 3) := by decide +kernel
theorem g205_257 : mC xm205 257 = some (.iload_n 3, 1) := by decide +kernel
theorem g205_258 : mC xm205 258 = some (.iaload, 1) := by decide +kernel
theorem g205_259 : mC xm205 259 = some (.iastore, 1) := by decide +kernel
theorem g205_260 : mC xm205 260 = some (.aload_n 0, 1) := by decide +kernel
theorem g205_261 : mC xm205 261 = some (.getfield 139, 3) := by decide +kernel
theorem g205_264 : mC xm205 264 = some (.iload_n 3, 1) := by decide +kernel
theorem g205_265 : mC xm205 265 = some (.dup2, 1) := by decide +kernel
theorem g205_266 : mC xm205 266 = some (.iaload, 1) := by decide +kernel
theorem g205_267 : mC xm205 267 = some (.iconst 1, 1) := by decide +kernel
theorem g205_268 : mC xm205 268 = some (.iadd, 1) := by decide +kernel
theorem g205_269 : mC xm205 269 = some (.iastore, 1) := by decide +kernel
theorem g205_270 : mC xm205 270 = some (.goto 307, 3) := by decide +kernel
theorem g205_273 : mC xm205 273 = some (.aload 6, 2) := by decide +kernel
theorem g205_275 : mC xm205 275 = some (.aload 4, 2) := by decide +kernel
theorem g205_277 : mC xm205 277 = some (.iload 5, 2) := by decide +kernel
theorem g205_279 : mC xm205 279 = some (.iconst 1, 1) := by decide +kernel
theorem g205_280 : mC xm205 280 = some (.iadd, 1) := by decide +kernel
theorem g205_281 : mC xm205 281 = some (.iaload, 1) := by decide +kernel
theorem g205_282 : mC xm205 282 = some (.aload_n 0, 1) := by decide +kernel
theorem g205_283 : mC xm205 283 = some (.iload_n 1, 1) := by decide +kernel
theorem g205_284 : mC xm205 284 = some (.aload 4, 2) := by decide +kernel
theorem g205_286 : mC xm205 286 = some (.iload 5, 2) := by decide +kernel
theorem g205_288 : mC xm205 288 = some (.iconst 1, 1) := by decide +kernel
theorem g205_289 : mC xm205 289 = some (.iadd, 1) := by decide +kernel
theorem g205_290 : mC xm205 290 = some (.iaload, 1) := by decide +kernel
theorem g205_291 : mC xm205 291 = some (.aload 4, 2) := by decide +kernel
theorem g205_293 : mC xm205 293 = some (.iload 5, 2) := by decide +kernel
theorem g205_295 : mC xm205 295 = some (.iconst 3, 1) := by decide +kernel
theorem g205_296 : mC xm205 296 = some (.iadd, 1) := by decide +kernel
theorem g205_297 : mC xm205 297 = some (.iaload, 1) := by decide +kernel
theorem g205_298 : mC xm205 298 = some (.iload_n 3, 1) := by decide +kernel
theorem g205_299 : mC xm205 299 = some (.invokevirtual 291, 3) := by decide +kernel
theorem g205_302 : mC xm205 302 = some (.iastore, 1) := by decide +kernel
theorem g205_303 : mC xm205 303 = some (.goto 274, 3) := by decide +kernel
theorem g205_306 : mC xm205 306 = some (.aload 6, 2) := by decide +kernel
theorem g205_308 : mC xm205 308 = some (.aload 4, 2) := by decide +kernel
theorem g205_310 : mC xm205 310 = some (.iload 5, 2) := by decide +kernel
theorem g205_312 : mC xm205 312 = some (.iconst 1, 1) := by decide +kernel
theorem g205_313 : mC xm205 313 = some (.iadd, 1) := by decide +kernel
theorem g205_314 : mC xm205 314 = some (.iaload, 1) := by decide +kernel
theorem g205_315 : mC xm205 315 = some (.aload_n 0, 1) := by decide +kernel
theorem g205_316 : mC xm205 316 = some (.iload_n 1, 1) := by decide +kernel
theorem g205_317 : mC xm205 317 = some (.aload 4, 2) := by decide +kernel
theorem g205_319 : mC xm205 319 = some (.iload 5, 2) := by decide +kernel
theorem g205_321 : mC xm205 321 = some (.iconst 1, 1) := by decide +kernel
theorem g205_322 : mC xm205 322 = some (.iadd, 1) := by decide +kernel
theorem g205_323 : mC xm205 323 = some (.iaload, 1) := by decide +kernel
theorem g205_324 : mC xm205 324 = some (.aload 6, 2) := by decide +kernel
theorem g205_326 : mC xm205 326 = some (.aload 4, 2) := by decide +kernel
theorem g205_328 : mC xm205 328 = some (.iload 5, 2) := by decide +kernel
theorem g205_330 : mC xm205 330 = some (.iconst 2, 1) := by decide +kernel
theorem g205_331 : mC xm205 331 = some (.iadd, 1) := by decide +kernel
theorem g205_332 : mC xm205 332 = some (.iaload, 1) := by decide +kernel
theorem g205_333 : mC xm205 333 = some (.iaload, 1) := by decide +kernel
theorem g205_334 : mC xm205 334 = some (.iload_n 3, 1) := by decide +kernel
theorem g205_335 : mC xm205 335 = some (.invokevirtual 291, 3) := by decide +kernel
theorem g205_338 : mC xm205 338 = some (.iastore, 1) := by decide +kernel
theorem g205_339 : mC xm205 339 = some (.goto 238, 3) := by decide +kernel
theorem g205_342 : mC xm205 342 = some (.aload 6, 2) := by decide +kernel
theorem g205_344 : mC xm205 344 = some (.aload 4, 2) := by decide +kernel
theorem g205_346 : mC xm205 346 = some (.iload 5, 2) := by decide +kernel
theorem g205_348 : mC xm205 348 = some (.iconst 1, 1) := by decide +kernel
theorem g205_349 : mC xm205 349 = some (.iadd, 1) := by decide +kernel
theorem g205_350 : mC xm205 350 = some (.iaload, 1) := by decide +kernel
theorem g205_351 : mC xm205 351 = some (.aload_n 0, 1) := by decide +kernel
theorem g205_352 : mC xm205 352 = some (.iload_n 1, 1) := by decide +kernel
theorem g205_353 : mC xm205 353 = some (.aload 4, 2) := by decide +kernel
theorem g205_355 : mC xm205 355 = some (.iload 5, 2) := by decide +kernel
theorem g205_357 : mC xm205 357 = some (.iconst 1, 1) := by decide +kernel
theorem g205_358 : mC xm205 358 = some (.iadd, 1) := by decide +kernel
theorem g205_359 : mC xm205 359 = some (.iaload, 1) := by decide +kernel
theorem g205_360 : mC xm205 360 = some (.aload 6, 2) := by decide +kernel
theorem g205_362 : mC xm205 362 = some (.aload 4, 2) := by decide +kernel
theorem g205_364 : mC xm205 364 = some (.iload 5, 2) := by decide +kernel
theorem g205_366 : mC xm205 366 = some (.iconst 1, 1) := by decide +kernel
theorem g205_367 : mC xm205 367 = some (.iadd, 1) := by decide +kernel
theorem g205_368 : mC xm205 368 = some (.iaload, 1) := by decide +kernel
theorem g205_369 : mC xm205 369 = some (.iaload, 1) := by decide +kernel
theorem g205_370 : mC xm205 370 = some (.aload 6, 2) := by decide +kernel
theorem g205_372 : mC xm205 372 = some (.aload 4, 2) := by decide +kernel
theorem g205_374 : mC xm205 374 = some (.iload 5, 2) := by decide +kernel
theorem g205_376 : mC xm205 376 = some (.iconst 2, 1) := by decide +kernel
theorem g205_377 : mC xm205 377 = some (.iadd, 1) := by decide +kernel
theorem g205_378 : mC xm205 378 = some (.iaload, 1) := by decide +kernel
theorem g205_379 : mC xm205 379 = some (.iaload, 1) := by decide +kernel
theorem g205_380 : mC xm205 380 = some (.iadd, 1) := by decide +kernel
theorem g205_381 : mC xm205 381 = some (.iload_n 3, 1) := by decide +kernel
theorem g205_382 : mC xm205 382 = some (.invokevirtual 291, 3) := by decide +kernel
theorem g205_385 : mC xm205 385 = some (.iastore, 1) := by decide +kernel
theorem g205_386 : mC xm205 386 = some (.goto 191, 3) := by decide +kernel
theorem g205_389 : mC xm205 389 = some (.aload 6, 2) := by decide +kernel
theorem g205_391 : mC xm205 391 = some (.aload 4, 2) := by decide +kernel
theorem g205_393 : mC xm205 393 = some (.iload 5, 2) := by decide +kernel
theorem g205_395 : mC xm205 395 = some (.iconst 1, 1) := by decide +kernel
theorem g205_396 : mC xm205 396 = some (.iadd, 1) := by decide +kernel
theorem g205_397 : mC xm205 397 = some (.iaload, 1) := by decide +kernel
theorem g205_398 : mC xm205 398 = some (.aload_n 0, 1) := by decide +kernel
theorem g205_399 : mC xm205 399 = some (.iload_n 1, 1) := by decide +kernel
theorem g205_400 : mC xm205 400 = some (.aload 4, 2) := by decide +kernel
theorem g205_402 : mC xm205 402 = some (.iload 5, 2) := by decide +kernel
theorem g205_404 : mC xm205 404 = some (.iconst 1, 1) := by decide +kernel
theorem g205_405 : mC xm205 405 = some (.iadd, 1) := by decide +kernel
theorem g205_406 : mC xm205 406 = some (.iaload, 1) := by decide +kernel
theorem g205_407 : mC xm205 407 = some (.aload 6, 2) := by decide +kernel
theorem g205_409 : mC xm205 409 = some (.aload 4, 2) := by decide +kernel
theorem g205_411 : mC xm205 411 = some (.iload 5, 2) := by decide +kernel
theorem g205_413 : mC xm205 413 = some (.iconst 1, 1) := by decide +kernel
theorem g205_414 : mC xm205 414 = some (.iadd, 1) := by decide +kernel
theorem g205_415 : mC xm205 415 = some (.iaload, 1) := by decide +kernel
theorem g205_416 : mC xm205 416 = some (.iaload, 1) := by decide +kernel
theorem g205_417 : mC xm205 417 = some (.aload 6, 2) := by decide +kernel
theorem g205_419 : mC xm205 419 = some (.aload 4, 2) := by decide +kernel
theorem g205_421 : mC xm205 421 = some (.iload 5, 2) := by decide +kernel
theorem g205_423 : mC xm205 423 = some (.iconst 2, 1) := by decide +kernel
theorem g205_424 : mC xm205 424 = some (.iadd, 1) := by decide +kernel
theorem g205_425 : mC xm205 425 = some (.iaload, 1) := by decide +kernel
theorem g205_426 : mC xm205 426 = some (.iaload, 1) := by decide +kernel
theorem g205_427 : mC xm205 427 = some (.isub, 1) := by decide +kernel
theorem g205_428 : mC xm205 428 = some (.iload_n 3, 1) := by decide +kernel
theorem g205_429 : mC xm205 429 = some (.invokevirtual 291, 3) := by decide +kernel
theorem g205_432 : mC xm205 432 = some (.iastore, 1) := by decide +kernel
theorem g205_433 : mC xm205 433 = some (.goto 144, 3) := by decide +kernel
theorem g205_436 : mC xm205 436 = some (.aload_n 0, 1) := by decide +kernel
theorem g205_437 : mC xm205 437 = some (.iload_n 1, 1) := by decide +kernel
theorem g205_438 : mC xm205 438 = some (.aload 4, 2) := by decide +kernel
theorem g205_440 : mC xm205 440 = some (.iload 5, 2) := by decide +kernel
theorem g205_442 : mC xm205 442 = some (.iconst 1, 1) := by decide +kernel
theorem g205_443 : mC xm205 443 = some (.iadd, 1) := by decide +kernel
theorem g205_444 : mC xm205 444 = some (.iaload, 1) := by decide +kernel
theorem g205_445 : mC xm205 445 = some (.iload_n 3, 1) := by decide +kernel
theorem g205_446 : mC xm205 446 = some (.invokevirtual 288, 3) := by decide +kernel
theorem g205_449 : mC xm205 449 = some (.aload_n 0, 1) := by decide +kernel
theorem g205_450 : mC xm205 450 = some (.iload_n 1, 1) := by decide +kernel
theorem g205_451 : mC xm205 451 = some (.aload 4, 2) := by decide +kernel
theorem g205_453 : mC xm205 453 = some (.iload 5, 2) := by decide +kernel
theorem g205_455 : mC xm205 455 = some (.iconst 2, 1) := by decide +kernel
theorem g205_456 : mC xm205 456 = some (.iadd, 1) := by decide +kernel
theorem g205_457 : mC xm205 457 = some (.iaload, 1) := by decide +kernel
theorem g205_458 : mC xm205 458 = some (.iload_n 3, 1) := by decide +kernel
theorem g205_459 : mC xm205 459 = some (.invokevirtual 288, 3) := by decide +kernel
theorem g205_462 : mC xm205 462 = some (.if_icmp .ge 13, 3) := by decide +kernel
theorem g205_465 : mC xm205 465 = some (.aload 4, 2) := by decide +kernel
theorem g205_467 : mC xm205 467 = some (.iload 5, 2) := by decide +kernel
theorem g205_469 : mC xm205 469 = some (.iconst 3, 1) := by decide +kernel
theorem g205_470 : mC xm205 470 = some (.iadd, 1) := by decide +kernel
theorem g205_471 : mC xm205 471 = some (.iaload, 1) := by decide +kernel
theorem g205_472 : mC xm205 472 = some (.goto 5, 3) := by decide +kernel
theorem g205_475 : mC xm205 475 = some (.iload 7, 2) := by decide +kernel
theorem g205_477 : mC xm205 477 = some (.istore 7, 2) := by decide +kernel
theorem g205_479 : mC xm205 479 = some (.goto 98, 3) := by decide +kernel
theorem g205_482 : mC xm205 482 = some (.aload_n 0, 1) := by decide +kernel
theorem g205_483 : mC xm205 483 = some (.iload_n 1, 1) := by decide +kernel
theorem g205_484 : mC xm205 484 = some (.aload 4, 2) := by decide +kernel
theorem g205_486 : mC xm205 486 = some (.iload 5, 2) := by decide +kernel
theorem g205_488 : mC xm205 488 = some (.iconst 1, 1) := by decide +kernel
theorem g205_489 : mC xm205 489 = some (.iadd, 1) := by decide +kernel
theorem g205_490 : mC xm205 490 = some (.iaload, 1) := by decide +kernel
theorem g205_491 : mC xm205 491 = some (.iload_n 3, 1) := by decide +kernel
theorem g205_492 : mC xm205 492 = some (.invokevirtual 288, 3) := by decide +kernel
theorem g205_495 : mC xm205 495 = some (.aload_n 0, 1) := by decide +kernel
theorem g205_496 : mC xm205 496 = some (.iload_n 1, 1) := by decide +kernel
theorem g205_497 : mC xm205 497 = some (.aload 4, 2) := by decide +kernel
theorem g205_499 : mC xm205 499 = some (.iload 5, 2) := by decide +kernel
theorem g205_501 : mC xm205 501 = some (.iconst 2, 1) := by decide +kernel
theorem g205_502 : mC xm205 502 = some (.iadd, 1) := by decide +kernel
theorem g205_503 : mC xm205 503 = some (.iaload, 1) := by decide +kernel
theorem g205_504 : mC xm205 504 = some (.iload_n 3, 1) := by decide +kernel
theorem g205_505 : mC xm205 505 = some (.invokevirtual 288, 3) := by decide +kernel
theorem g205_508 : mC xm205 508 = some (.if_icmp .ne 13, 3) := by decide +kernel
theorem g205_511 : mC xm205 511 = some (.aload 4, 2) := by decide +kernel
theorem g205_513 : mC xm205 513 = some (.iload 5, 2) := by decide +kernel
theorem g205_515 : mC xm205 515 = some (.iconst 3, 1) := by decide +kernel
theorem g205_516 : mC xm205 516 = some (.iadd, 1) := by decide +kernel
theorem g205_517 : mC xm205 517 = some (.iaload, 1) := by decide +kernel
theorem g205_518 : mC xm205 518 = some (.goto 5, 3) := by decide +kernel
theorem g205_521 : mC xm205 521 = some (.iload 7, 2) := by decide +kernel
theorem g205_523 : mC xm205 523 = some (.istore 7, 2) := by decide +kernel
theorem g205_525 : mC xm205 525 = some (.goto 52, 3) := by decide +kernel
theorem g205_528 : mC xm205 528 = some (.aload_n 0, 1) := by decide +kernel
theorem g205_529 : mC xm205 529 = some (.iload_n 1, 1) := by decide +kernel
theorem g205_530 : mC xm205 530 = some (.aload 4, 2) := by decide +kernel
theorem g205_532 : mC xm205 532 = some (.iload 5, 2) := by decide +kernel
theorem g205_534 : mC xm205 534 = some (.iconst 1, 1) := by decide +kernel
theorem g205_535 : mC xm205 535 = some (.iadd, 1) := by decide +kernel
theorem g205_536 : mC xm205 536 = some (.iaload, 1) := by decide +kernel
theorem g205_537 : mC xm205 537 = some (.iload_n 3, 1) := by decide +kernel
theorem g205_538 : mC xm205 538 = some (.invokevirtual 301, 3) := by decide +kernel
theorem g205_541 : mC xm205 541 = some (.ifCond .eq 13, 3) := by decide +kernel
theorem g205_544 : mC xm205 544 = some (.aload 4, 2) := by decide +kernel
theorem g205_546 : mC xm205 546 = some (.iload 5, 2) := by decide +kernel
theorem g205_548 : mC xm205 548 = some (.iconst 3, 1) := by decide +kernel
theorem g205_549 : mC xm205 549 = some (.iadd, 1) := by decide +kernel
theorem g205_550 : mC xm205 550 = some (.iaload, 1) := by decide +kernel
theorem g205_551 : mC xm205 551 = some (.goto 5, 3) := by decide +kernel
theorem g205_554 : mC xm205 554 = some (.iload 7, 2) := by decide +kernel
theorem g205_556 : mC xm205 556 = some (.istore 7, 2) := by decide +kernel
theorem g205_558 : mC xm205 558 = some (.goto 19, 3) := by decide +kernel
theorem g205_561 : mC xm205 561 = some (.aload 4, 2) := by decide +kernel
theorem g205_563 : mC xm205 563 = some (.iload 5, 2) := by decide +kernel
theorem g205_565 : mC xm205 565 = some (.iconst 3, 1) := by decide +kernel
theorem g205_566 : mC xm205 566 = some (.iadd, 1) := by decide +kernel
theorem g205_567 : mC xm205 567 = some (.iaload, 1) := by decide +kernel
theorem g205_568 : mC xm205 568 = some (.istore 7, 2) := by decide +kernel
theorem g205_570 : mC xm205 570 = some (.goto 7, 3) := by decide +kernel
theorem g205_573 : mC xm205 573 = some (.bipush 12, 2) := by decide +kernel
theorem g205_575 : mC xm205 575 = some (.istore 7, 2) := by decide +kernel
theorem g205_577 : mC xm205 577 = some (.aload_n 0, 1) := by decide +kernel
theorem g205_578 : mC xm205 578 = some (.getfield 124, 3) := by decide +kernel
theorem g205_581 : mC xm205 581 = some (.iload_n 3, 1) := by decide +kernel
theorem g205_582 : mC xm205 582 = some (.iload 7, 2) := by decide +kernel
theorem g205_584 : mC xm205 584 = some (.iastore, 1) := by decide +kernel
theorem g205_585 : mC xm205 585 = some (.iload 7, 2) := by decide +kernel
theorem g205_587 : mC xm205 587 = some (.aload_n 0, 1) := by decide +kernel
theorem g205_588 : mC xm205 588 = some (.getfield 9, 3) := by decide +kernel
theorem g205_591 : mC xm205 591 = some (.iload_n 1, 1) := by decide +kernel
theorem g205_592 : mC xm205 592 = some (.iaload, 1) := by decide +kernel
theorem g205_593 : mC xm205 593 = some (.if_icmp .lt 13, 3) := by decide +kernel
theorem g205_596 : mC xm205 596 = some (.aload_n 0, 1) := by decide +kernel
theorem g205_597 : mC xm205 597 = some (.getfield 133, 3) := by decide +kernel
theorem g205_600 : mC xm205 600 = some (.iload_n 3, 1) := by decide +kernel
theorem g205_601 : mC xm205 601 = some (.iconst 0, 1) := by decide +kernel
theorem g205_602 : mC xm205 602 = some (.iastore, 1) := by decide +kernel
theorem g205_603 : mC xm205 603 = some (.goto 22, 3) := by decide +kernel
theorem g205_606 : mC xm205 606 = some (.aload_n 0, 1) := by decide +kernel
theorem g205_607 : mC xm205 607 = some (.getfield 130, 3) := by decide +kernel
theorem g205_610 : mC xm205 610 = some (.iload_n 3, 1) := by decide +kernel
theorem g205_611 : mC xm205 611 = some (.iaload, 1) := by decide +kernel
theorem g205_612 : mC xm205 612 = some (.sipush 150, 3) := by decide +kernel
theorem g205_615 : mC xm205 615 = some (.if_icmp .ne 10, 3) := by decide +kernel
theorem g205_618 : mC xm205 618 = some (.aload_n 0, 1) := by decide +kernel
theorem g205_619 : mC xm205 619 = some (.getfield 133, 3) := by decide +kernel
theorem g205_622 : mC xm205 622 = some (.iload_n 3, 1) := by decide +kernel
theorem g205_623 : mC xm205 623 = some (.iconst 2, 1) := by decide +kernel
theorem g205_624 : mC xm205 624 = some (.iastore, 1) := by decide +kernel
theorem g205_625 : mC xm205 625 = some (.return_, 1) := by decide +kernel
theorem g206_0 : mC xm206 0 = some (.iload 4, 2) := by decide +kernel
theorem g206_2 : mC xm206 2 = some (.iconst 1, 1) := by decide +kernel
theorem g206_3 : mC xm206 3 = some (.if_icmp .ne 7, 3) := by decide +kernel
theorem g206_6 : mC xm206 6 = some (.iload_n 3, 1) := by decide +kernel
theorem g206_7 : mC xm206 7 = some (.goto 27, 3) := by decide +kernel
theorem g206_10 : mC xm206 10 = some (.iload_n 3, 1) := by decide +kernel
theorem g206_11 : mC xm206 11 = some (.aload_n 0, 1) := by decide +kernel
theorem g206_12 : mC xm206 12 = some (.getfield 18, 3) := by decide +kernel
theorem g206_15 : mC xm206 15 = some (.iload_n 1, 1) := by decide +kernel
theorem g206_16 : mC xm206 16 = some (.aaload, 1) := by decide +kernel
theorem g206_17 : mC xm206 17 = some (.iload_n 2, 1) := by decide +kernel
theorem g206_18 : mC xm206 18 = some (.iaload, 1) := by decide +kernel
theorem g206_19 : mC xm206 19 = some (.iconst 2, 1) := by decide +kernel
theorem g206_20 : mC xm206 20 = some (.if_icmp .ne 8, 3) := by decide +kernel
theorem g206_23 : mC xm206 23 = some (.bipush 100, 2) := by decide +kernel
theorem g206_25 : mC xm206 25 = some (.goto 6, 3) := by decide +kernel
theorem g206_31 : mC xm206 31 = some (.invokestatic 282, 3) := by decide +kernel
theorem g206_34 : mC xm206 34 = some (.ireturn, 1) := by decide +kernel
theorem g207_0 : mC xm207 0 = some (.aload_n 0, 1) := by decide +kernel
theorem g207_1 : mC xm207 1 = some (.getfield 27, 3) := by decide +kernel
theorem g207_4 : mC xm207 4 = some (.iload_n 1, 1) := by decide +kernel
theorem g207_5 : mC xm207 5 = some (.iaload, 1) := by decide +kernel
theorem g207_6 : mC xm207 6 = some (.ifCond .ge 12, 3) := by decide +kernel
theorem g207_9 : mC xm207 9 = some (.aload_n 0, 1) := by decide +kernel
theorem g207_10 : mC xm207 10 = some (.getfield 45, 3) := by decide +kernel
theorem g207_13 : mC xm207 13 = some (.iload_n 1, 1) := by decide +kernel
theorem g207_14 : mC xm207 14 = some (.iaload, 1) := by decide +kernel
theorem g207_15 : mC xm207 15 = some (.goto 33, 3) := by decide +kernel
theorem g207_18 : mC xm207 18 = some (.iload_n 2, 1) := by decide +kernel
theorem g207_19 : mC xm207 19 = some (.iconst 1, 1) := by decide +kernel
theorem g207_20 : mC xm207 20 = some (.if_icmp .ne 17, 3) := by decide +kernel
theorem g207_23 : mC xm207 23 = some (.aload_n 0, 1) := by decide +kernel
theorem g207_24 : mC xm207 24 = some (.getfield 57, 3) := by decide +kernel
theorem g207_27 : mC xm207 27 = some (.aload_n 0, 1) := by decide +kernel
theorem g207_28 : mC xm207 28 = some (.getfield 27, 3) := by decide +kernel
theorem g207_31 : mC xm207 31 = some (.iload_n 1, 1) := by decide +kernel
theorem g207_32 : mC xm207 32 = some (.iaload, 1) := by decide +kernel
theorem g207_33 : mC xm207 33 = some (.iaload, 1) := by decide +kernel
theorem g207_34 : mC xm207 34 = some (.goto 14, 3) := by decide +kernel
theorem g207_37 : mC xm207 37 = some (.aload_n 0, 1) := by decide +kernel
theorem g207_38 : mC xm207 38 = some (.getfield 51, 3) := by decide +kernel
theorem g207_41 : mC xm207 41 = some (.aload_n 0, 1) := by decide +kernel
theorem g207_42 : mC xm207 42 = some (.getfield 27, 3) := by decide +kernel
theorem g207_45 : mC xm207 45 = some (.iload_n 1, 1) := by decide +kernel
theorem g207_46 : mC xm207 46 = some (.iaload, 1) := by decide +kernel
theorem g207_47 : mC xm207 47 = some (.iaload, 1) := by decide +kernel
theorem g207_48 : mC xm207 48 = some (.ireturn, 1) := by decide +kernel
theorem g208_0 : mC xm208 0 = some (.aload_n 0, 1) := by decide +kernel
theorem g208_1 : mC xm208 1 = some (.getfield 27, 3) := by decide +kernel
theorem g208_4 : mC xm208 4 = some (.iload_n 1, 1) := by decide +kernel
theorem g208_5 : mC xm208 5 = some (.iaload, 1) := by decide +kernel
theorem g208_6 : mC xm208 6 = some (.ifCond .ge 14, 3) := by decide +kernel
theorem g208_9 : mC xm208 9 = some (.aload_n 0, 1) := by decide +kernel
theorem g208_10 : mC xm208 10 = some (.getfield 42, 3) := by decide +kernel
theorem g208_13 : mC xm208 13 = some (.iload_n 1, 1) := by decide +kernel
theorem g208_14 : mC xm208 14 = some (.aaload, 1) := by decide +kernel
theorem g208_15 : mC xm208 15 = some (.iload_n 2, 1) := by decide +kernel
theorem g208_16 : mC xm208 16 = some (.iaload, 1) := by decide +kernel
theorem g208_17 : mC xm208 17 = some (.goto 37, 3) := by decide +kernel
theorem g208_20 : mC xm208 20 = some (.iload_n 3, 1) := by decide +kernel
theorem g208_21 : mC xm208 21 = some (.iconst 1, 1) := by decide +kernel
theorem g208_22 : mC xm208 22 = some (.if_icmp .ne 19, 3) := by decide +kernel
theorem g208_25 : mC xm208 25 = some (.aload_n 0, 1) := by decide +kernel
theorem g208_26 : mC xm208 26 = some (.getfield 54, 3) := by decide +kernel
theorem g208_29 : mC xm208 29 = some (.aload_n 0, 1) := by decide +kernel
theorem g208_30 : mC xm208 30 = some (.getfield 27, 3) := by decide +kernel
theorem g208_33 : mC xm208 33 = some (.iload_n 1, 1) := by decide +kernel
theorem g208_34 : mC xm208 34 = some (.iaload, 1) := by decide +kernel
theorem g208_35 : mC xm208 35 = some (.aaload, 1) := by decide +kernel
theorem g208_36 : mC xm208 36 = some (.iload_n 2, 1) := by decide +kernel
theorem g208_37 : mC xm208 37 = some (.iaload, 1) := by decide +kernel
theorem g208_38 : mC xm208 38 = some (.goto 16, 3) := by decide +kernel
theorem g208_41 : mC xm208 41 = some (.aload_n 0, 1) := by decide +kernel
theorem g208_42 : mC xm208 42 = some (.getfield 48, 3) := by decide +kernel
theorem g208_45 : mC xm208 45 = some (.aload_n 0, 1) := by decide +kernel
theorem g208_46 : mC xm208 46 = some (.getfield 27, 3) := by decide +kernel
theorem g208_49 : mC xm208 49 = some (.iload_n 1, 1) := by decide +kernel
theorem g208_50 : mC xm208 50 = some (.iaload, 1) := by decide +kernel
theorem g208_51 : mC xm208 51 = some (.aaload, 1) := by decide +kernel
theorem g208_52 : mC xm208 52 = some (.iload_n 2, 1) := by decide +kernel
theorem g208_53 : mC xm208 53 = some (.iaload, 1) := by decide +kernel
theorem g208_54 : mC xm208 54 = some (.istore 4, 2) := by decide +kernel
theorem g208_56 : mC xm208 56 = some (.aload_n 0, 1) := by decide +kernel
theorem g208_57 : mC xm208 57 = some (.getfield 27, 3) := by decide +kernel
theorem g208_60 : mC xm208 60 = some (.iload_n 1, 1) := by decide +kernel
theorem g208_61 : mC xm208 61 = some (.iaload, 1) := by decide +kernel
theorem g208_62 : mC xm208 62 = some (.ifCond .ge 13, 3) := by decide +kernel
theorem g208_65 : mC xm208 65 = some (.iload 4, 2) := by decide +kernel
theorem g208_67 : mC xm208 67 = some (.iconst (-1), 1) := by decide +kernel
theorem g208_68 : mC xm208 68 = some (.if_icmp .ne 7, 3) := by decide +kernel
theorem g208_71 : mC xm208 71 = some (.iconst 0, 1) := by decide +kernel
theorem g208_72 : mC xm208 72 = some (.goto 5, 3) := by decide +kernel
theorem g208_75 : mC xm208 75 = some (.iload 4, 2) := by decide +kernel
theorem g208_77 : mC xm208 77 = some (.ireturn, 1) := by decide +kernel
theorem g209_0 : mC xm209 0 = some (.iload_n 3, 1) := by decide +kernel
theorem g209_1 : mC xm209 1 = some (.iconst 1, 1) := by decide +kernel
theorem g209_2 : mC xm209 2 = some (.if_icmp .ne 14, 3) := by decide +kernel
theorem g209_5 : mC xm209 5 = some (.aload_n 0, 1) := by decide +kernel
theorem g209_6 : mC xm209 6 = some (.getfield 121, 3) := by decide +kernel
theorem g209_9 : mC xm209 9 = some (.iconst 1, 1) := by decide +kernel
theorem g209_10 : mC xm209 10 = some (.aaload, 1) := by decide +kernel
theorem g209_11 : mC xm209 11 = some (.iload_n 2, 1) := by decide +kernel
theorem g209_12 : mC xm209 12 = some (.iaload, 1) := by decide +kernel
theorem g209_13 : mC xm209 13 = some (.goto 30, 3) := by decide +kernel
theorem g209_16 : mC xm209 16 = some (.aload_n 0, 1) := by decide +kernel
theorem g209_17 : mC xm209 17 = some (.getfield 121, 3) := by decide +kernel
theorem g209_20 : mC xm209 20 = some (.iconst 0, 1) := by decide +kernel
theorem g209_21 : mC xm209 21 = some (.aaload, 1) := by decide +kernel
theorem g209_22 : mC xm209 22 = some (.iload_n 2, 1) := by decide +kernel
theorem g209_23 : mC xm209 23 = some (.iaload, 1) := by decide +kernel
theorem g209_24 : mC xm209 24 = some (.aload_n 0, 1) := by decide +kernel
theorem g209_25 : mC xm209 25 = some (.getfield 18, 3) := by decide +kernel
theorem g209_28 : mC xm209 28 = some (.iload_n 1, 1) := by decide +kernel
theorem g209_29 : mC xm209 29 = some (.aaload, 1) := by decide +kernel
theorem g209_30 : mC xm209 30 = some (.iload_n 2, 1) := by decide +kernel
theorem g209_31 : mC xm209 31 = some (.iaload, 1) := by decide +kernel
theorem g209_32 : mC xm209 32 = some (.aload_n 0, 1) := by decide +kernel
theorem g209_33 : mC xm209 33 = some (.getfield 21, 3) := by decide +kernel
theorem g209_36 : mC xm209 36 = some (.iload_n 1, 1) := by decide +kernel
theorem g209_37 : mC xm209 37 = some (.aaload, 1) := by decide +kernel
theorem g209_38 : mC xm209 38 = some (.iload_n 2, 1) := by decide +kernel
theorem g209_39 : mC xm209 39 = some (.iaload, 1) := by decide +kernel
theorem g209_40 : mC xm209 40 = some (.invokestatic 278, 3) := by decide +kernel
theorem g209_43 : mC xm209 43 = some (.ireturn, 1) := by decide +kernel
theorem g210_0 : mC xm210 0 = some (.aload_n 0, 1) := by decide +kernel
theorem g210_1 : mC xm210 1 = some (.iload_n 1, 1) := by decide +kernel
theorem g210_2 : mC xm210 2 = some (.iload_n 2, 1) := by decide +kernel
theorem g210_3 : mC xm210 3 = some (.iload_n 3, 1) := by decide +kernel
theorem g210_4 : mC xm210 4 = some (.invokevirtual 288, 3) := by decide +kernel
theorem g210_7 : mC xm210 7 = some (.istore 4, 2) := by decide +kernel
theorem g210_9 : mC xm210 9 = some (.iload_n 3, 1) := by decide +kernel
theorem g210_10 : mC xm210 10 = some (.iconst 1, 1) := by decide +kernel
theorem g210_11 : mC xm210 11 = some (.if_icmp .ne 10, 3) := by decide +kernel
theorem g210_14 : mC xm210 14 = some (.iload 4, 2) := by decide +kernel
theorem g210_16 : mC xm210 16 = some (.iconst 2, 1) := by decide +kernel
theorem g210_17 : mC xm210 17 = some (.invokestatic 274, 3) := by decide +kernel
theorem g210_20 : mC xm210 20 = some (.ireturn, 1) := by decide +kernel
theorem g210_21 : mC xm210 21 = some (.iload 4, 2) := by decide +kernel
theorem g210_23 : mC xm210 23 = some (.bipush 100, 2) := by decide +kernel
theorem g210_25 : mC xm210 25 = some (.if_icmp .ge 12, 3) := by decide +kernel
theorem g210_28 : mC xm210 28 = some (.sipush 1900, 3) := by decide +kernel
theorem g210_31 : mC xm210 31 = some (.iload 4, 2) := by decide +kernel
theorem g210_33 : mC xm210 33 = some (.iadd, 1) := by decide +kernel
theorem g210_34 : mC xm210 34 = some (.goto 5, 3) := by decide +kernel
theorem g210_37 : mC xm210 37 = some (.iload 4, 2) := by decide +kernel
theorem g210_39 : mC xm210 39 = some (.aload_n 0, 1) := by decide +kernel
theorem g210_40 : mC xm210 40 = some (.getfield 24, 3) := by decide +kernel
theorem g210_43 : mC xm210 43 = some (.iload_n 1, 1) := by decide +kernel
theorem g210_44 : mC xm210 44 = some (.iaload, 1) := by decide +kernel
theorem g210_45 : mC xm210 45 = some (.invokestatic 274, 3) := by decide +kernel
theorem g210_48 : mC xm210 48 = some (.ireturn, 1) := by decide +kernel
theorem g211_0 : mC xm211 0 = some (.iload_n 1, 1) := by decide +kernel
theorem g211_1 : mC xm211 1 = some (.iload_n 3, 1) := by decide +kernel
theorem g211_2 : mC xm211 2 = some (.if_icmp .ne 7, 3) := by decide +kernel
theorem g211_5 : mC xm211 5 = some (.iconst 1, 1) := by decide +kernel
theorem g211_6 : mC xm211 6 = some (.goto 4, 3) := by decide +kernel
theorem g211_9 : mC xm211 9 = some (.iconst 0, 1) := by decide +kernel
theorem g211_10 : mC xm211 10 = some (.istore 4, 2) := by decide +kernel
theorem g211_12 : mC xm211 12 = some (.iconst 0, 1) := by decide +kernel
theorem g211_13 : mC xm211 13 = some (.istore 5, 2) := by decide +kernel
theorem g211_15 : mC xm211 15 = some (.iload 4, 2) := by decide +kernel
theorem g211_17 : mC xm211 17 = some (.ifCond .eq 33, 3) := by decide +kernel
theorem g211_20 : mC xm211 20 = some (.iload 5, 2) := by decide +kernel
theorem g211_22 : mC xm211 22 = some (.iload_n 1, 1) := by decide +kernel
theorem g211_23 : mC xm211 23 = some (.if_icmp .ge 27, 3) := by decide +kernel
theorem g211_26 : mC xm211 26 = some (.aload_n 0, 1) := by decide +kernel
theorem g211_27 : mC xm211 27 = some (.iload 5, 2) := by decide +kernel
theorem g211_29 : mC xm211 29 = some (.iaload, 1) := by decide +kernel
theorem g211_30 : mC xm211 30 = some (.aload_n 2, 1) := by decide +kernel
theorem g211_31 : mC xm211 31 = some (.iload 5, 2) := by decide +kernel
theorem g211_33 : mC xm211 33 = some (.iaload, 1) := by decide +kernel
theorem g211_34 : mC xm211 34 = some (.if_icmp .ne 7, 3) := by decide +kernel
theorem g211_37 : mC xm211 37 = some (.iconst 1, 1) := by decide +kernel
theorem g211_38 : mC xm211 38 = some (.goto 4, 3) := by decide +kernel
theorem g211_41 : mC xm211 41 = some (.iconst 0, 1) := by decide +kernel
theorem g211_42 : mC xm211 42 = some (.istore 4, 2) := by decide +kernel
theorem g211_44 : mC xm211 44 = some (.iinc 5 1, 3) := by decide +kernel
theorem g211_47 : mC xm211 47 = some (.goto (-32), 3) := by decide +kernel
theorem g211_50 : mC xm211 50 = some (.iload 4, 2) := by decide +kernel
theorem g211_52 : mC xm211 52 = some (.ireturn, 1) := by decide +kernel
theorem g220_0 : mC xm220 0 = some (.iconst 0, 1) := by decide +kernel
theorem g220_1 : mC xm220 1 = some (.istore 5, 2) := by decide +kernel
theorem g220_3 : mC xm220 3 = some (.iconst 0, 1) := by decide +kernel
theorem g220_4 : mC xm220 4 = some (.istore 6, 2) := by decide +kernel
theorem g220_6 : mC xm220 6 = some (.iload 6, 2) := by decide +kernel
theorem g220_8 : mC xm220 8 = some (.aload_n 0, 1) := by decide +kernel
theorem g220_9 : mC xm220 9 = some (.getfield 171, 3) := by decide +kernel
theorem g220_12 : mC xm220 12 = some (.if_icmp .ge 167, 3) := by decide +kernel
theorem g220_15 : mC xm220 15 = some (.iload_n 3, 1) := by decide +kernel
theorem g220_16 : mC xm220 16 = some (.ifCond .eq 66, 3) := by decide +kernel
theorem g220_82 : mC xm220 82 = some (.aload_n 0, 1) := by decide +kernel
theorem g220_83 : mC xm220 83 = some (.iload 6, 2) := by decide +kernel
theorem g220_85 : mC xm220 85 = some (.iload_n 1, 1) := by decide +kernel
theorem g220_86 : mC xm220 86 = some (.invokevirtual 329, 3) := by decide +kernel
theorem g220_89 : mC xm220 89 = some (.istore 7, 2) := by decide +kernel
theorem g220_91 : mC xm220 91 = some (.iload_n 2, 1) := by decide +kernel
theorem g220_92 : mC xm220 92 = some (.iload 6, 2) := by decide +kernel
theorem g220_94 : mC xm220 94 = some (.ishr, 1) := by decide +kernel
theorem g220_95 : mC xm220 95 = some (.iconst 1, 1) := by decide +kernel
theorem g220_96 : mC xm220 96 = some (.iand, 1) := by decide +kernel
theorem g220_97 : mC xm220 97 = some (.iconst 1, 1) := by decide +kernel
theorem g220_98 : mC xm220 98 = some (.if_icmp .ne 41, 3) := by decide +kernel
theorem g220_139 : mC xm220 139 = some (.iload 4, 2) := by decide +kernel
theorem g220_141 : mC xm220 141 = some (.ifCond .eq 11, 3) := by decide +kernel
theorem g220_152 : mC xm220 152 = some (.iload 5, 2) := by decide +kernel
theorem g220_154 : mC xm220 154 = some (.iload 7, 2) := by decide +kernel
theorem g220_156 : mC xm220 156 = some (.ifCond .eq 13, 3) := by decide +kernel
theorem g220_159 : mC xm220 159 = some (.aload_n 0, 1) := by decide +kernel
theorem g220_160 : mC xm220 160 = some (.getfield 30, 3) := by decide +kernel
theorem g220_163 : mC xm220 163 = some (.iload 6, 2) := by decide +kernel
theorem g220_165 : mC xm220 165 = some (.iaload, 1) := by decide +kernel
theorem g220_166 : mC xm220 166 = some (.goto 4, 3) := by decide +kernel
theorem g220_169 : mC xm220 169 = some (.iconst 0, 1) := by decide +kernel
theorem g220_170 : mC xm220 170 = some (.iadd, 1) := by decide +kernel
theorem g220_171 : mC xm220 171 = some (.istore 5, 2) := by decide +kernel
theorem g220_173 : mC xm220 173 = some (.iinc 6 1, 3) := by decide +kernel
theorem g220_176 : mC xm220 176 = some (.goto (-170), 3) := by decide +kernel
theorem g220_179 : mC xm220 179 = some (.iload 5, 2) := by decide +kernel
theorem g220_181 : mC xm220 181 = some (.ireturn, 1) := by decide +kernel
theorem g221_0 : mC xm221 0 = some (.iload_n 1, 1) := by decide +kernel
theorem g221_1 : mC xm221 1 = some (.invokestatic 271, 3) := by decide +kernel
theorem g221_4 : mC xm221 4 = some (.ifCond .ne 6, 3) := by decide +kernel
theorem g221_7 : mC xm221 7 = some (.bipush (-2), 2) := by decide +kernel
theorem g221_9 : mC xm221 9 = some (.ireturn, 1) := by decide +kernel
theorem g221_10 : mC xm221 10 = some (.aload_n 0, 1) := by decide +kernel
theorem g221_11 : mC xm221 11 = some (.getfield 18, 3) := by decide +kernel
theorem g221_14 : mC xm221 14 = some (.astore_n 2, 1) := by decide +kernel
theorem g221_15 : mC xm221 15 = some (.aload_n 0, 1) := by decide +kernel
theorem g221_16 : mC xm221 16 = some (.getfield 21, 3) := by decide +kernel
theorem g221_19 : mC xm221 19 = some (.astore_n 3, 1) := by decide +kernel
theorem g221_20 : mC xm221 20 = some (.aload_n 0, 1) := by decide +kernel
theorem g221_21 : mC xm221 21 = some (.getfield 24, 3) := by decide +kernel
theorem g221_24 : mC xm221 24 = some (.astore 4, 2) := by decide +kernel
theorem g221_26 : mC xm221 26 = some (.aload_n 0, 1) := by decide +kernel
theorem g221_27 : mC xm221 27 = some (.bipush 12, 2) := by decide +kernel
theorem g221_29 : mC xm221 29 = some (.bipush 6, 2) := by decide +kernel
theorem g221_31 : mC xm221 31 = some (.multianewarray 13 2, 4) := by decide +kernel
theorem g221_35 : mC xm221 35 = some (.putfield 18, 3) := by decide +kernel
theorem g221_38 : mC xm221 38 = some (.aload_n 0, 1) := by decide +kernel
theorem g221_39 : mC xm221 39 = some (.bipush 12, 2) := by decide +kernel
theorem g221_41 : mC xm221 41 = some (.bipush 6, 2) := by decide +kernel
theorem g221_43 : mC xm221 43 = some (.multianewarray 13 2, 4) := by decide +kernel
theorem g221_47 : mC xm221 47 = some (.putfield 21, 3) := by decide +kernel
theorem g221_50 : mC xm221 50 = some (.aload_n 0, 1) := by decide +kernel
theorem g221_51 : mC xm221 51 = some (.bipush 12, 2) := by decide +kernel
theorem g221_53 : mC xm221 53 = some (.newarray .int, 2) := by decide +kernel
theorem g221_55 : mC xm221 55 = some (.putfield 24, 3) := by decide +kernel
theorem g221_58 : mC xm221 58 = some (.iconst 0, 1) := by decide +kernel
theorem g221_59 : mC xm221 59 = some (.istore 5, 2) := by decide +kernel
theorem g221_61 : mC xm221 61 = some (.iload 5, 2) := by decide +kernel
theorem g221_63 : mC xm221 63 = some (.bipush 12, 2) := by decide +kernel
theorem g221_65 : mC xm221 65 = some (.if_icmp .ge 47, 3) := by decide +kernel
theorem g221_68 : mC xm221 68 = some (.iconst 0, 1) := by decide +kernel
theorem g221_69 : mC xm221 69 = some (.istore 6, 2) := by decide +kernel
theorem g221_71 : mC xm221 71 = some (.iload 6, 2) := by decide +kernel
theorem g221_73 : mC xm221 73 = some (.bipush 6, 2) := by decide +kernel
theorem g221_75 : mC xm221 75 = some (.if_icmp .ge 31, 3) := by decide +kernel
theorem g221_78 : mC xm221 78 = some (.aload_n 0, 1) := by decide +kernel
theorem g221_79 : mC xm221 79 = some (.getfield 18, 3) := by decide +kernel
theorem g221_82 : mC xm221 82 = some (.iload 5, 2) := by decide +kernel
theorem g221_84 : mC xm221 84 = some (.aaload, 1) := by decide +kernel
theorem g221_85 : mC xm221 85 = some (.iload 6, 2) := by decide +kernel
theorem g221_87 : mC xm221 87 = some (.iconst 2, 1) := by decide +kernel
theorem g221_88 : mC xm221 88 = some (.iastore, 1) := by decide +kernel
theorem g221_89 : mC xm221 89 = some (.aload_n 0, 1) := by decide +kernel
theorem g221_90 : mC xm221 90 = some (.getfield 21, 3) := by decide +kernel
theorem g221_93 : mC xm221 93 = some (.iload 5, 2) := by decide +kernel
theorem g221_95 : mC xm221 95 = some (.aaload, 1) := by decide +kernel
theorem g221_96 : mC xm221 96 = some (.iload 6, 2) := by decide +kernel
theorem g221_98 : mC xm221 98 = some (.iconst (-1), 1) := by decide +kernel
theorem g221_99 : mC xm221 99 = some (.iastore, 1) := by decide +kernel
theorem g221_100 : mC xm221 100 = some (.iinc 6 1, 3) := by decide +kernel
theorem g221_103 : mC xm221 103 = some (.goto (-32), 3) := by decide +kernel
theorem g221_106 : mC xm221 106 = some (.iinc 5 1, 3) := by decide +kernel
theorem g221_109 : mC xm221 109 = some (.goto (-48), 3) := by decide +kernel
theorem g221_112 : mC xm221 112 = some (.aload_n 0, 1) := by decide +kernel
theorem g221_113 : mC xm221 113 = some (.iload_n 1, 1) := by decide +kernel
theorem g221_114 : mC xm221 114 = some (.iconst 0, 1) := by decide +kernel
theorem g221_115 : mC xm221 115 = some (.iconst 0, 1) := by decide +kernel
theorem g221_116 : mC xm221 116 = some (.invokevirtual 339, 3) := by decide +kernel
theorem g221_119 : mC xm221 119 = some (.istore 5, 2) := by decide +kernel
theorem g221_121 : mC xm221 121 = some (.aload_n 0, 1) := by decide +kernel
theorem g221_122 : mC xm221 122 = some (.aload_n 2, 1) := by decide +kernel
theorem g221_123 : mC xm221 123 = some (.putfield 18, 3) := by decide +kernel
theorem g221_126 : mC xm221 126 = some (.aload_n 0, 1) := by decide +kernel
theorem g221_127 : mC xm221 127 = some (.aload_n 3, 1) := by decide +kernel
theorem g221_128 : mC xm221 128 = some (.putfield 21, 3) := by decide +kernel
theorem g221_131 : mC xm221 131 = some (.aload_n 0, 1) := by decide +kernel
theorem g221_132 : mC xm221 132 = some (.aload 4, 2) := by decide +kernel
theorem g221_134 : mC xm221 134 = some (.putfield 24, 3) := by decide +kernel
theorem g221_137 : mC xm221 137 = some (.iload 5, 2) := by decide +kernel
theorem g221_139 : mC xm221 139 = some (.ireturn, 1) := by decide +kernel
theorem g222_0 : mC xm222 0 = some (.aload_n 0, 1) := by decide +kernel
theorem g222_1 : mC xm222 1 = some (.getfield 48, 3) := by decide +kernel
theorem g222_4 : mC xm222 4 = some (.astore 4, 2) := by decide +kernel
theorem g222_6 : mC xm222 6 = some (.aload_n 0, 1) := by decide +kernel
theorem g222_7 : mC xm222 7 = some (.getfield 54, 3) := by decide +kernel
theorem g222_10 : mC xm222 10 = some (.astore 5, 2) := by decide +kernel
theorem g222_12 : mC xm222 12 = some (.aload_n 0, 1) := by decide +kernel
theorem g222_13 : mC xm222 13 = some (.getfield 51, 3) := by decide +kernel
theorem g222_16 : mC xm222 16 = some (.astore 6, 2) := by decide +kernel
theorem g222_18 : mC xm222 18 = some (.aload_n 0, 1) := by decide +kernel
theorem g222_19 : mC xm222 19 = some (.getfield 57, 3) := by decide +kernel
theorem g222_22 : mC xm222 22 = some (.astore 7, 2) := by decide +kernel
theorem g222_24 : mC xm222 24 = some (.iconst 0, 1) := by decide +kernel
theorem g222_25 : mC xm222 25 = some (.istore 8, 2) := by decide +kernel
theorem g222_27 : mC xm222 27 = some (.iload 8, 2) := by decide +kernel
theorem g222_29 : mC xm222 29 = some (.bipush 12, 2) := by decide +kernel
theorem g222_31 : mC xm222 31 = some (.if_icmp .ge 47, 3) := by decide +kernel
theorem g222_34 : mC xm222 34 = some (.aload 4, 2) := by decide +kernel
theorem g222_36 : mC xm222 36 = some (.iload 8, 2) := by decide +kernel
theorem g222_38 : mC xm222 38 = some (.aaload, 1) := by decide +kernel
theorem g222_39 : mC xm222 39 = some (.iconst 0, 1) := by decide +kernel
theorem g222_40 : mC xm222 40 = some (.aload_n 0, 1) := by decide +kernel
theorem g222_41 : mC xm222 41 = some (.getfield 145, 3) := by decide +kernel
theorem g222_44 : mC xm222 44 = some (.iload 8, 2) := by decide +kernel
theorem g222_46 : mC xm222 46 = some (.aaload, 1) := by decide +kernel
theorem g222_47 : mC xm222 47 = some (.iconst 0, 1) := by decide +kernel
theorem g222_48 : mC xm222 48 = some (.bipush 12, 2) := by decide +kernel
theorem g222_50 : mC xm222 50 = some (.invokestatic 262, 3) := by decide +kernel
theorem g222_53 : mC xm222 53 = some (.aload 5, 2) := by decide +kernel
theorem g222_55 : mC xm222 55 = some (.iload 8, 2) := by decide +kernel
theorem g222_57 : mC xm222 57 = some (.aaload, 1) := by decide +kernel
theorem g222_58 : mC xm222 58 = some (.iconst 0, 1) := by decide +kernel
theorem g222_59 : mC xm222 59 = some (.aload_n 0, 1) := by decide +kernel
theorem g222_60 : mC xm222 60 = some (.getfield 148, 3) := by decide +kernel
theorem g222_63 : mC xm222 63 = some (.iload 8, 2) := by decide +kernel
theorem g222_65 : mC xm222 65 = some (.aaload, 1) := by decide +kernel
theorem g222_66 : mC xm222 66 = some (.iconst 0, 1) := by decide +kernel
theorem g222_67 : mC xm222 67 = some (.bipush 12, 2) := by decide +kernel
theorem g222_69 : mC xm222 69 = some (.invokestatic 262, 3) := by decide +kernel
theorem g222_72 : mC xm222 72 = some (.iinc 8 1, 3) := by decide +kernel
theorem g222_75 : mC xm222 75 = some (.goto (-48), 3) := by decide +kernel
theorem g222_78 : mC xm222 78 = some (.aload 6, 2) := by decide +kernel
theorem g222_80 : mC xm222 80 = some (.iconst 0, 1) := by decide +kernel
theorem g222_81 : mC xm222 81 = some (.aload_n 0, 1) := by decide +kernel
theorem g222_82 : mC xm222 82 = some (.getfield 151, 3) := by decide +kernel
theorem g222_85 : mC xm222 85 = some (.iconst 0, 1) := by decide +kernel
theorem g222_86 : mC xm222 86 = some (.bipush 12, 2) := by decide +kernel
theorem g222_88 : mC xm222 88 = some (.invokestatic 262, 3) := by decide +kernel
theorem g222_91 : mC xm222 91 = some (.aload 7, 2) := by decide +kernel
theorem g222_93 : mC xm222 93 = some (.iconst 0, 1) := by decide +kernel
theorem g222_94 : mC xm222 94 = some (.aload_n 0, 1) := by decide +kernel
theorem g222_95 : mC xm222 95 = some (.getfield 154, 3) := by decide +kernel
theorem g222_98 : mC xm222 98 = some (.iconst 0, 1) := by decide +kernel
theorem g222_99 : mC xm222 99 = some (.bipush 12, 2) := by decide +kernel
theorem g222_101 : mC xm222 101 = some (.invokestatic 262, 3) := by decide +kernel
theorem g222_104 : mC xm222 104 = some (.aload_n 0, 1) := by decide +kernel
theorem g222_105 : mC xm222 105 = some (.aload_n 0, 1) := by decide +kernel
theorem g222_106 : mC xm222 106 = some (.getfield 145, 3) := by decide +kernel
theorem g222_109 : mC xm222 109 = some (.putfield 48, 3) := by decide +kernel
theorem g222_112 : mC xm222 112 = some (.aload_n 0, 1) := by decide +kernel
theorem g222_113 : mC xm222 113 = some (.aload_n 0, 1) := by decide +kernel
theorem g222_114 : mC xm222 114 = some (.getfield 148, 3) := by decide +kernel
theorem g222_117 : mC xm222 117 = some (.putfield 54, 3) := by decide +kernel
theorem g222_120 : mC xm222 120 = some (.aload_n 0, 1) := by decide +kernel
theorem g222_121 : mC xm222 121 = some (.aload_n 0, 1) := by decide +kernel
theorem g222_122 : mC xm222 122 = some (.getfield 151, 3) := by decide +kernel
theorem g222_125 : mC xm222 125 = some (.putfield 51, 3) := by decide +kernel
theorem g222_128 : mC xm222 128 = some (.aload_n 0, 1) := by decide +kernel
theorem g222_129 : mC xm222 129 = some (.aload_n 0, 1) := by decide +kernel
theorem g222_130 : mC xm222 130 = some (.getfield 154, 3) := by decide +kernel
theorem g222_133 : mC xm222 133 = some (.putfield 57, 3) := by decide +kernel
theorem g222_136 : mC xm222 136 = some (.aload_n 0, 1) := by decide +kernel
theorem g222_137 : mC xm222 137 = some (.iload_n 1, 1) := by decide +kernel
theorem g222_138 : mC xm222 138 = some (.iload_n 2, 1) := by decide +kernel
theorem g222_139 : mC xm222 139 = some (.iload_n 3, 1) := by decide +kernel
theorem g222_140 : mC xm222 140 = some (.iconst 0, 1) := by decide +kernel
theorem g222_141 : mC xm222 141 = some (.invokevirtual 335, 3) := by decide +kernel
theorem g222_144 : mC xm222 144 = some (.istore 8, 2) := by decide +kernel
theorem g222_146 : mC xm222 146 = some (.aload_n 0, 1) := by decide +kernel
theorem g222_147 : mC xm222 147 = some (.aload 4, 2) := by decide +kernel
theorem g222_149 : mC xm222 149 = some (.putfield 48, 3) := by decide +kernel
theorem g222_152 : mC xm222 152 = some (.aload_n 0, 1) := by decide +kernel
theorem g222_153 : mC xm222 153 = some (.aload 5, 2) := by decide +kernel
theorem g222_155 : mC xm222 155 = some (.putfield 54, 3) := by decide +kernel
theorem g222_158 : mC xm222 158 = some (.aload_n 0, 1) := by decide +kernel
theorem g222_159 : mC xm222 159 = some (.aload 6, 2) := by decide +kernel
theorem g222_161 : mC xm222 161 = some (.putfield 51, 3) := by decide +kernel
theorem g222_164 : mC xm222 164 = some (.aload_n 0, 1) := by decide +kernel
theorem g222_165 : mC xm222 165 = some (.aload 7, 2) := by decide +kernel
theorem g222_167 : mC xm222 167 = some (.putfield 57, 3) := by decide +kernel
theorem g222_170 : mC xm222 170 = some (.iload 8, 2) := by decide +kernel
theorem g222_172 : mC xm222 172 = some (.ireturn, 1) := by decide +kernel
end XH33
