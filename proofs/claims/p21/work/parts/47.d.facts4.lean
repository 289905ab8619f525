/-! The tables against the words, by the kernel: 4. -/
noncomputable section XFacts4
set_option maxRecDepth 100000 in
theorem x_n4 : x_mt4.all x_m1 = true := by decide +kernel
set_option maxRecDepth 100000 in
theorem xk2_49 : x_m2 xm49 (3116, 1003) = true := x_m2_of rfl (by decide +kernel) (by decide +kernel)
set_option maxRecDepth 100000 in
theorem xk2_50 : x_m2 xm50 (3120, 1003) = true := x_m2_of rfl (by decide +kernel) (by decide +kernel)
set_option maxRecDepth 100000 in
theorem xk2_51 : x_m2 xm51 (3125, 1003) = true := x_m2_of rfl (by decide +kernel) (by decide +kernel)
set_option maxRecDepth 100000 in
theorem xk2_52 : x_m2 xm52 (3129, 1001) = true := x_m2_of rfl (by decide +kernel) (by decide +kernel)
set_option maxRecDepth 100000 in
theorem xk2_53 : x_m2 xm53 (3133, 1001) = true := x_m2_of rfl (by decide +kernel) (by decide +kernel)
set_option maxRecDepth 100000 in
theorem xk2_54 : x_m2 xm54 (3137, 1001) = true := x_m2_of rfl (by decide +kernel) (by decide +kernel)
set_option maxRecDepth 100000 in
theorem xk2_55 : x_m2 xm55 (3141, 1001) = true := x_m2_of rfl (by decide +kernel) (by decide +kernel)
set_option maxRecDepth 100000 in
theorem xk2_56 : x_m2 xm56 (3144, 1001) = true := x_m2_of rfl (by decide +kernel) (by decide +kernel)
set_option maxRecDepth 100000 in
theorem xk2_57 : x_m2 xm57 (3148, 1010) = true := x_m2_of rfl (by decide +kernel) (by decide +kernel)
set_option maxRecDepth 100000 in
theorem xk2_58 : x_m2 xm58 (3152, 1006) = true := x_m2_of rfl (by decide +kernel) (by decide +kernel)
set_option maxRecDepth 100000 in
theorem xk2_59 : x_m2 xm59 (3156, 1010) = true := x_m2_of rfl (by decide +kernel) (by decide +kernel)
set_option maxRecDepth 100000 in
theorem xk2_60 : x_m2 xm60 (3160, 1001) = true := x_m2_of rfl (by decide +kernel) (by decide +kernel)
set_option maxRecDepth 100000 in
theorem xk2_61 : x_m2 xm61 (3164, 1006) = true := x_m2_of rfl (by decide +kernel) (by decide +kernel)
set_option maxRecDepth 100000 in
theorem xk2_62 : x_m2 xm62 (3168, 1001) = true := x_m2_of rfl (by decide +kernel) (by decide +kernel)
set_option maxRecDepth 100000 in
theorem xk2_63 : x_m2 xm63 (3171, 1001) = true := x_m2_of rfl (by decide +kernel) (by decide +kernel)
set_option maxRecDepth 100000 in
theorem xk2_64 : x_m2 xm64 (3175, 1001) = true := x_m2_of rfl (by decide +kernel) (by decide +kernel)
theorem x_o4 : ∀ q ∈ x_mt4, ∃ b, x_m2 q b = true := List.forall_mem_cons.mpr ⟨⟨(3116, 1003), xk2_49⟩, List.forall_mem_cons.mpr ⟨⟨(3120, 1003), xk2_50⟩, List.forall_mem_cons.mpr ⟨⟨(3125, 1003), xk2_51⟩, List.forall_mem_cons.mpr ⟨⟨(3129, 1001), xk2_52⟩, List.forall_mem_cons.mpr ⟨⟨(3133, 1001), xk2_53⟩, List.forall_mem_cons.mpr ⟨⟨(3137, 1001), xk2_54⟩, List.forall_mem_cons.mpr ⟨⟨(3141, 1001), xk2_55⟩, List.forall_mem_cons.mpr ⟨⟨(3144, 1001), xk2_56⟩, List.forall_mem_cons.mpr ⟨⟨(3148, 1010), xk2_57⟩, List.forall_mem_cons.mpr ⟨⟨(3152, 1006), xk2_58⟩, List.forall_mem_cons.mpr ⟨⟨(3156, 1010), xk2_59⟩, List.forall_mem_cons.mpr ⟨⟨(3160, 1001), xk2_60⟩, List.forall_mem_cons.mpr ⟨⟨(3164, 1006), xk2_61⟩, List.forall_mem_cons.mpr ⟨⟨(3168, 1001), xk2_62⟩, List.forall_mem_cons.mpr ⟨⟨(3171, 1001), xk2_63⟩, List.forall_mem_cons.mpr ⟨⟨(3175, 1001), xk2_64⟩, fun _ h => absurd h List.not_mem_nil⟩⟩⟩⟩⟩⟩⟩⟩⟩⟩⟩⟩⟩⟩⟩⟩
set_option maxRecDepth 100000 in
theorem x_n5 : x_mt5.all x_m1 = true := by decide +kernel
set_option maxRecDepth 100000 in
theorem xk2_65 : x_m2 xm65 (3179, 1001) = true := x_m2_of rfl (by decide +kernel) (by decide +kernel)
set_option maxRecDepth 100000 in
theorem xk2_66 : x_m2 xm66 (3183, 1005) = true := x_m2_of rfl (by decide +kernel) (by decide +kernel)
set_option maxRecDepth 100000 in
theorem xk2_67 : x_m2 xm67 (3188, 1001) = true := x_m2_of rfl (by decide +kernel) (by decide +kernel)
set_option maxRecDepth 100000 in
theorem xk2_68 : x_m2 xm68 (3192, 1005) = true := x_m2_of rfl (by decide +kernel) (by decide +kernel)
set_option maxRecDepth 100000 in
theorem xk2_69 : x_m2 xm69 (3196, 1005) = true := x_m2_of rfl (by decide +kernel) (by decide +kernel)
set_option maxRecDepth 100000 in
theorem xk2_70 : x_m2 xm70 (3201, 1004) = true := x_m2_of rfl (by decide +kernel) (by decide +kernel)
set_option maxRecDepth 100000 in
theorem xk2_71 : x_m2 xm71 (3204, 1016) = true := x_m2_of rfl (by decide +kernel) (by decide +kernel)
set_option maxRecDepth 100000 in
theorem xk2_72 : x_m2 xm72 (3208, 1005) = true := x_m2_of rfl (by decide +kernel) (by decide +kernel)
set_option maxRecDepth 100000 in
theorem xk2_73 : x_m2 xm73 (3212, 1006) = true := x_m2_of rfl (by decide +kernel) (by decide +kernel)
set_option maxRecDepth 100000 in
theorem xk2_74 : x_m2 xm74 (3216, 1006) = true := x_m2_of rfl (by decide +kernel) (by decide +kernel)
set_option maxRecDepth 100000 in
theorem xk2_75 : x_m2 xm75 (3221, 1005) = true := x_m2_of rfl (by decide +kernel) (by decide +kernel)
set_option maxRecDepth 100000 in
theorem xk2_76 : x_m2 xm76 (3226, 1005) = true := x_m2_of rfl (by decide +kernel) (by decide +kernel)
set_option maxRecDepth 100000 in
theorem xk2_77 : x_m2 xm77 (3230, 1004) = true := x_m2_of rfl (by decide +kernel) (by decide +kernel)
set_option maxRecDepth 100000 in
theorem xk2_78 : x_m2 xm78 (3233, 1001) = true := x_m2_of rfl (by decide +kernel) (by decide +kernel)
set_option maxRecDepth 100000 in
theorem xk2_79 : x_m2 xm79 (3237, 1004) = true := x_m2_of rfl (by decide +kernel) (by decide +kernel)
set_option maxRecDepth 100000 in
theorem xk2_80 : x_m2 xm80 (4000, 1001) = true := x_m2_of rfl (by decide +kernel) (by decide +kernel)
theorem x_o5 : ∀ q ∈ x_mt5, ∃ b, x_m2 q b = true := List.forall_mem_cons.mpr ⟨⟨(3179, 1001), xk2_65⟩, List.forall_mem_cons.mpr ⟨⟨(3183, 1005), xk2_66⟩, List.forall_mem_cons.mpr ⟨⟨(3188, 1001), xk2_67⟩, List.forall_mem_cons.mpr ⟨⟨(3192, 1005), xk2_68⟩, List.forall_mem_cons.mpr ⟨⟨(3196, 1005), xk2_69⟩, List.forall_mem_cons.mpr ⟨⟨(3201, 1004), xk2_70⟩, List.forall_mem_cons.mpr ⟨⟨(3204, 1016), xk2_71⟩, List.forall_mem_cons.mpr ⟨⟨(3208, 1005), xk2_72⟩, List.forall_mem_cons.mpr ⟨⟨(3212, 1006), xk2_73⟩, List.forall_mem_cons.mpr ⟨⟨(3216, 1006), xk2_74⟩, List.forall_mem_cons.mpr ⟨⟨(3221, 1005), xk2_75⟩, List.forall_mem_cons.mpr ⟨⟨(3226, 1005), xk2_76⟩, List.forall_mem_cons.mpr ⟨⟨(3230, 1004), xk2_77⟩, List.forall_mem_cons.mpr ⟨⟨(3233, 1001), xk2_78⟩, List.forall_mem_cons.mpr ⟨⟨(3237, 1004), xk2_79⟩, List.forall_mem_cons.mpr ⟨⟨(4000, 1001), xk2_80⟩, fun _ h => absurd h List.not_mem_nil⟩⟩⟩⟩⟩⟩⟩⟩⟩⟩⟩⟩⟩⟩⟩⟩
set_option maxRecDepth 100000 in
theorem x_n6 : x_mt6.all x_m1 = true := by decide +kernel
set_option maxRecDepth 100000 in
theorem xk2_81 : x_m2 xm81 (4004, 1005) = true := x_m2_of rfl (by decide +kernel) (by decide +kernel)
set_option maxRecDepth 100000 in
theorem xk2_82 : x_m2 xm82 (4008, 1001) = true := x_m2_of rfl (by decide +kernel) (by decide +kernel)
set_option maxRecDepth 100000 in
theorem xk2_83 : x_m2 xm83 (4012, 1006) = true := x_m2_of rfl (by decide +kernel) (by decide +kernel)
set_option maxRecDepth 100000 in
theorem xk2_84 : x_m2 xm84 (4016, 1001) = true := x_m2_of rfl (by decide +kernel) (by decide +kernel)
set_option maxRecDepth 100000 in
theorem xk2_85 : x_m2 xm85 (4022, 1001) = true := x_m2_of rfl (by decide +kernel) (by decide +kernel)
set_option maxRecDepth 100000 in
theorem xk2_86 : x_m2 xm86 (4026, 1001) = true := x_m2_of rfl (by decide +kernel) (by decide +kernel)
set_option maxRecDepth 100000 in
theorem xk2_87 : x_m2 xm87 (4029, 1001) = true := x_m2_of rfl (by decide +kernel) (by decide +kernel)
set_option maxRecDepth 100000 in
theorem xk2_88 : x_m2 xm88 (4034, 1001) = true := x_m2_of rfl (by decide +kernel) (by decide +kernel)
set_option maxRecDepth 100000 in
theorem xk2_89 : x_m2 xm89 (4039, 1001) = true := x_m2_of rfl (by decide +kernel) (by decide +kernel)
set_option maxRecDepth 100000 in
theorem xk2_90 : x_m2 xm90 (4043, 1017) = true := x_m2_of rfl (by decide +kernel) (by decide +kernel)
set_option maxRecDepth 100000 in
theorem xk2_91 : x_m2 xm91 (4047, 1001) = true := x_m2_of rfl (by decide +kernel) (by decide +kernel)
set_option maxRecDepth 100000 in
theorem xk2_92 : x_m2 xm92 (4051, 1001) = true := x_m2_of rfl (by decide +kernel) (by decide +kernel)
set_option maxRecDepth 100000 in
theorem xk2_93 : x_m2 xm93 (4054, 1001) = true := x_m2_of rfl (by decide +kernel) (by decide +kernel)
set_option maxRecDepth 100000 in
theorem xk2_94 : x_m2 xm94 (4057, 1001) = true := x_m2_of rfl (by decide +kernel) (by decide +kernel)
set_option maxRecDepth 100000 in
theorem xk2_95 : x_m2 xm95 (4061, 1003) = true := x_m2_of rfl (by decide +kernel) (by decide +kernel)
set_option maxRecDepth 100000 in
theorem xk2_96 : x_m2 xm96 (4066, 1001) = true := x_m2_of rfl (by decide +kernel) (by decide +kernel)
theorem x_o6 : ∀ q ∈ x_mt6, ∃ b, x_m2 q b = true := List.forall_mem_cons.mpr ⟨⟨(4004, 1005), xk2_81⟩, List.forall_mem_cons.mpr ⟨⟨(4008, 1001), xk2_82⟩, List.forall_mem_cons.mpr ⟨⟨(4012, 1006), xk2_83⟩, List.forall_mem_cons.mpr ⟨⟨(4016, 1001), xk2_84⟩, List.forall_mem_cons.mpr ⟨⟨(4022, 1001), xk2_85⟩, List.forall_mem_cons.mpr ⟨⟨(4026, 1001), xk2_86⟩, List.forall_mem_cons.mpr ⟨⟨(4029, 1001), xk2_87⟩, List.forall_mem_cons.mpr ⟨⟨(4034, 1001), xk2_88⟩, List.forall_mem_cons.mpr ⟨⟨(4039, 1001), xk2_89⟩, List.forall_mem_cons.mpr ⟨⟨(4043, 1017), xk2_90⟩, List.forall_mem_cons.mpr ⟨⟨(4047, 1001), xk2_91⟩, List.forall_mem_cons.mpr ⟨⟨(4051, 1001), xk2_92⟩, List.forall_mem_cons.mpr ⟨⟨(4054, 1001), xk2_93⟩, List.forall_mem_cons.mpr ⟨⟨(4057, 1001), xk2_94⟩, List.forall_mem_cons.mpr ⟨⟨(4061, 1003), xk2_95⟩, List.forall_mem_cons.mpr ⟨⟨(4066, 1001), xk2_96⟩, fun _ h => absurd h List.not_mem_nil⟩⟩⟩⟩⟩⟩⟩⟩⟩⟩⟩⟩⟩⟩⟩⟩
set_option maxRecDepth 100000 in
theorem x_n7 : x_mt7.all x_m1 = true := by decide +kernel
set_option maxRecDepth 100000 in
theorem xk2_97 : x_m2 xm97 (4069, 1001) = true := x_m2_of rfl (by decide +kernel) (by decide +kernel)
set_option maxRecDepth 100000 in
theorem xk2_98 : x_m2 xm98 (4072, 1001) = true := x_m2_of rfl (by decide +kernel) (by decide +kernel)
set_option maxRecDepth 100000 in
theorem xk2_99 : x_m2 xm99 (4075, 1001) = true := x_m2_of rfl (by decide +kernel) (by decide +kernel)
set_option maxRecDepth 100000 in
theorem xk2_100 : x_m2 xm100 (4079, 1001) = true := x_m2_of rfl (by decide +kernel) (by decide +kernel)
set_option maxRecDepth 100000 in
theorem xk2_101 : x_m2 xm101 (4083, 1007) = true := x_m2_of rfl (by decide +kernel) (by decide +kernel)
set_option maxRecDepth 100000 in
theorem xk2_102 : x_m2 xm102 (4087, 1007) = true := x_m2_of rfl (by decide +kernel) (by decide +kernel)
set_option maxRecDepth 100000 in
theorem xk2_103 : x_m2 xm103 (4091, 1001) = true := x_m2_of rfl (by decide +kernel) (by decide +kernel)
set_option maxRecDepth 100000 in
theorem xk2_104 : x_m2 xm104 (4094, 1001) = true := x_m2_of rfl (by decide +kernel) (by decide +kernel)
set_option maxRecDepth 100000 in
theorem xk2_105 : x_m2 xm105 (4097, 1001) = true := x_m2_of rfl (by decide +kernel) (by decide +kernel)
set_option maxRecDepth 100000 in
theorem xk2_106 : x_m2 xm106 (4101, 1004) = true := x_m2_of rfl (by decide +kernel) (by decide +kernel)
set_option maxRecDepth 100000 in
theorem xk2_107 : x_m2 xm107 (4105, 1001) = true := x_m2_of rfl (by decide +kernel) (by decide +kernel)
set_option maxRecDepth 100000 in
theorem xk2_108 : x_m2 xm108 (4109, 1001) = true := x_m2_of rfl (by decide +kernel) (by decide +kernel)
set_option maxRecDepth 100000 in
theorem xk2_109 : x_m2 xm109 (4113, 1001) = true := x_m2_of rfl (by decide +kernel) (by decide +kernel)
set_option maxRecDepth 100000 in
theorem xk2_110 : x_m2 xm110 (4117, 1007) = true := x_m2_of rfl (by decide +kernel) (by decide +kernel)
set_option maxRecDepth 100000 in
theorem xk2_111 : x_m2 xm111 (4121, 1007) = true := x_m2_of rfl (by decide +kernel) (by decide +kernel)
set_option maxRecDepth 100000 in
theorem xk2_112 : x_m2 xm112 (4126, 1001) = true := x_m2_of rfl (by decide +kernel) (by decide +kernel)
theorem x_o7 : ∀ q ∈ x_mt7, ∃ b, x_m2 q b = true := List.forall_mem_cons.mpr ⟨⟨(4069, 1001), xk2_97⟩, List.forall_mem_cons.mpr ⟨⟨(4072, 1001), xk2_98⟩, List.forall_mem_cons.mpr ⟨⟨(4075, 1001), xk2_99⟩, List.forall_mem_cons.mpr ⟨⟨(4079, 1001), xk2_100⟩, List.forall_mem_cons.mpr ⟨⟨(4083, 1007), xk2_101⟩, List.forall_mem_cons.mpr ⟨⟨(4087, 1007), xk2_102⟩, List.forall_mem_cons.mpr ⟨⟨(4091, 1001), xk2_103⟩, List.forall_mem_cons.mpr ⟨⟨(4094, 1001), xk2_104⟩, List.forall_mem_cons.mpr ⟨⟨(4097, 1001), xk2_105⟩, List.forall_mem_cons.mpr ⟨⟨(4101, 1004), xk2_106⟩, List.forall_mem_cons.mpr ⟨⟨(4105, 1001), xk2_107⟩, List.forall_mem_cons.mpr ⟨⟨(4109, 1001), xk2_108⟩, List.forall_mem_cons.mpr ⟨⟨(4113, 1001), xk2_109⟩, List.forall_mem_cons.mpr ⟨⟨(4117, 1007), xk2_110⟩, List.forall_mem_cons.mpr ⟨⟨(4121, 1007), xk2_111⟩, List.forall_mem_cons.mpr ⟨⟨(4126, 1001), xk2_112⟩, fun _ h => absurd h List.not_mem_nil⟩⟩⟩⟩⟩⟩⟩⟩⟩⟩⟩⟩⟩⟩⟩⟩
end XFacts4
