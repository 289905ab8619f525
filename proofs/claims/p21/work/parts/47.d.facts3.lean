/-! The tables against the words, by the kernel: 3. -/
noncomputable section XFacts3
set_option maxRecDepth 100000 in
theorem x_n0 : x_mt0.all x_m1 = true := by decide +kernel
set_option maxRecDepth 100000 in
theorem x_n1 : x_mt1.all x_m1 = true := by decide +kernel
set_option maxRecDepth 100000 in
theorem xk2_1 : x_m2 xm1 (1025, 1001) = true := x_m2_of rfl (by decide +kernel) (by decide +kernel)
set_option maxRecDepth 100000 in
theorem xk2_2 : x_m2 xm2 (1033, 1002) = true := x_m2_of rfl (by decide +kernel) (by decide +kernel)
set_option maxRecDepth 100000 in
theorem xk2_3 : x_m2 xm3 (1060, 1003) = true := x_m2_of rfl (by decide +kernel) (by decide +kernel)
set_option maxRecDepth 100000 in
theorem xk2_4 : x_m2 xm4 (1091, 1004) = true := x_m2_of rfl (by decide +kernel) (by decide +kernel)
set_option maxRecDepth 100000 in
theorem xk2_5 : x_m2 xm5 (1113, 1005) = true := x_m2_of rfl (by decide +kernel) (by decide +kernel)
set_option maxRecDepth 100000 in
theorem xk2_6 : x_m2 xm6 (1119, 1006) = true := x_m2_of rfl (by decide +kernel) (by decide +kernel)
set_option maxRecDepth 100000 in
theorem xk2_7 : x_m2 xm7 (1183, 1007) = true := x_m2_of rfl (by decide +kernel) (by decide +kernel)
set_option maxRecDepth 100000 in
theorem xk2_8 : x_m2 xm8 (1209, 1008) = true := x_m2_of rfl (by decide +kernel) (by decide +kernel)
set_option maxRecDepth 100000 in
theorem xk2_9 : x_m2 xm9 (1238, 1009) = true := x_m2_of rfl (by decide +kernel) (by decide +kernel)
set_option maxRecDepth 100000 in
theorem xk2_10 : x_m2 xm10 (2033, 1010) = true := x_m2_of rfl (by decide +kernel) (by decide +kernel)
set_option maxRecDepth 100000 in
theorem xk2_11 : x_m2 xm11 (2108, 1001) = true := x_m2_of rfl (by decide +kernel) (by decide +kernel)
set_option maxRecDepth 100000 in
theorem xk2_12 : x_m2 xm12 (2112, 1002) = true := x_m2_of rfl (by decide +kernel) (by decide +kernel)
set_option maxRecDepth 100000 in
theorem xk2_13 : x_m2 xm13 (2116, 1001) = true := x_m2_of rfl (by decide +kernel) (by decide +kernel)
set_option maxRecDepth 100000 in
theorem xk2_14 : x_m2 xm14 (2120, 1002) = true := x_m2_of rfl (by decide +kernel) (by decide +kernel)
set_option maxRecDepth 100000 in
theorem xk2_15 : x_m2 xm15 (2124, 1002) = true := x_m2_of rfl (by decide +kernel) (by decide +kernel)
set_option maxRecDepth 100000 in
theorem xk2_16 : x_m2 xm16 (2128, 1002) = true := x_m2_of rfl (by decide +kernel) (by decide +kernel)
theorem x_o1 : ∀ q ∈ x_mt1, ∃ b, x_m2 q b = true := List.forall_mem_cons.mpr ⟨⟨(1025, 1001), xk2_1⟩, List.forall_mem_cons.mpr ⟨⟨(1033, 1002), xk2_2⟩, List.forall_mem_cons.mpr ⟨⟨(1060, 1003), xk2_3⟩, List.forall_mem_cons.mpr ⟨⟨(1091, 1004), xk2_4⟩, List.forall_mem_cons.mpr ⟨⟨(1113, 1005), xk2_5⟩, List.forall_mem_cons.mpr ⟨⟨(1119, 1006), xk2_6⟩, List.forall_mem_cons.mpr ⟨⟨(1183, 1007), xk2_7⟩, List.forall_mem_cons.mpr ⟨⟨(1209, 1008), xk2_8⟩, List.forall_mem_cons.mpr ⟨⟨(1238, 1009), xk2_9⟩, List.forall_mem_cons.mpr ⟨⟨(2033, 1010), xk2_10⟩, List.forall_mem_cons.mpr ⟨⟨(2108, 1001), xk2_11⟩, List.forall_mem_cons.mpr ⟨⟨(2112, 1002), xk2_12⟩, List.forall_mem_cons.mpr ⟨⟨(2116, 1001), xk2_13⟩, List.forall_mem_cons.mpr ⟨⟨(2120, 1002), xk2_14⟩, List.forall_mem_cons.mpr ⟨⟨(2124, 1002), xk2_15⟩, List.forall_mem_cons.mpr ⟨⟨(2128, 1002), xk2_16⟩, fun _ h => absurd h List.not_mem_nil⟩⟩⟩⟩⟩⟩⟩⟩⟩⟩⟩⟩⟩⟩⟩⟩
set_option maxRecDepth 100000 in
theorem x_n2 : x_mt2.all x_m1 = true := by decide +kernel
set_option maxRecDepth 100000 in
theorem xk2_17 : x_m2 xm17 (2131, 1003) = true := x_m2_of rfl (by decide +kernel) (by decide +kernel)
set_option maxRecDepth 100000 in
theorem xk2_18 : x_m2 xm18 (2146, 1002) = true := x_m2_of rfl (by decide +kernel) (by decide +kernel)
set_option maxRecDepth 100000 in
theorem xk2_19 : x_m2 xm19 (2150, 1012) = true := x_m2_of rfl (by decide +kernel) (by decide +kernel)
set_option maxRecDepth 100000 in
theorem xk2_20 : x_m2 xm20 (2154, 1012) = true := x_m2_of rfl (by decide +kernel) (by decide +kernel)
set_option maxRecDepth 100000 in
theorem xk2_21 : x_m2 xm21 (2160, 1012) = true := x_m2_of rfl (by decide +kernel) (by decide +kernel)
set_option maxRecDepth 100000 in
theorem xk2_22 : x_m2 xm22 (2164, 1012) = true := x_m2_of rfl (by decide +kernel) (by decide +kernel)
set_option maxRecDepth 100000 in
theorem xk2_23 : x_m2 xm23 (2167, 1013) = true := x_m2_of rfl (by decide +kernel) (by decide +kernel)
set_option maxRecDepth 100000 in
theorem xk2_24 : x_m2 xm24 (2170, 1012) = true := x_m2_of rfl (by decide +kernel) (by decide +kernel)
set_option maxRecDepth 100000 in
theorem xk2_25 : x_m2 xm25 (2175, 1014) = true := x_m2_of rfl (by decide +kernel) (by decide +kernel)
set_option maxRecDepth 100000 in
theorem xk2_26 : x_m2 xm26 (2178, 1015) = true := x_m2_of rfl (by decide +kernel) (by decide +kernel)
set_option maxRecDepth 100000 in
theorem xk2_27 : x_m2 xm27 (2181, 1015) = true := x_m2_of rfl (by decide +kernel) (by decide +kernel)
set_option maxRecDepth 100000 in
theorem xk2_28 : x_m2 xm28 (2184, 1015) = true := x_m2_of rfl (by decide +kernel) (by decide +kernel)
set_option maxRecDepth 100000 in
theorem xk2_29 : x_m2 xm29 (2188, 1015) = true := x_m2_of rfl (by decide +kernel) (by decide +kernel)
set_option maxRecDepth 100000 in
theorem xk2_31 : x_m2 xm31 (2201, 1002) = true := x_m2_of rfl (by decide +kernel) (by decide +kernel)
set_option maxRecDepth 100000 in
theorem xk2_32 : x_m2 xm32 (2205, 1002) = true := x_m2_of rfl (by decide +kernel) (by decide +kernel)
theorem x_o2 : ∀ q ∈ x_mt2, ∃ b, x_m2 q b = true := List.forall_mem_cons.mpr ⟨⟨(2131, 1003), xk2_17⟩, List.forall_mem_cons.mpr ⟨⟨(2146, 1002), xk2_18⟩, List.forall_mem_cons.mpr ⟨⟨(2150, 1012), xk2_19⟩, List.forall_mem_cons.mpr ⟨⟨(2154, 1012), xk2_20⟩, List.forall_mem_cons.mpr ⟨⟨(2160, 1012), xk2_21⟩, List.forall_mem_cons.mpr ⟨⟨(2164, 1012), xk2_22⟩, List.forall_mem_cons.mpr ⟨⟨(2167, 1013), xk2_23⟩, List.forall_mem_cons.mpr ⟨⟨(2170, 1012), xk2_24⟩, List.forall_mem_cons.mpr ⟨⟨(2175, 1014), xk2_25⟩, List.forall_mem_cons.mpr ⟨⟨(2178, 1015), xk2_26⟩, List.forall_mem_cons.mpr ⟨⟨(2181, 1015), xk2_27⟩, List.forall_mem_cons.mpr ⟨⟨(2184, 1015), xk2_28⟩, List.forall_mem_cons.mpr ⟨⟨(2188, 1015), xk2_29⟩, List.forall_mem_cons.mpr ⟨⟨(1025, 1001), xk2_1⟩, List.forall_mem_cons.mpr ⟨⟨(2201, 1002), xk2_31⟩, List.forall_mem_cons.mpr ⟨⟨(2205, 1002), xk2_32⟩, fun _ h => absurd h List.not_mem_nil⟩⟩⟩⟩⟩⟩⟩⟩⟩⟩⟩⟩⟩⟩⟩⟩
set_option maxRecDepth 100000 in
theorem x_n3 : x_mt3.all x_m1 = true := by decide +kernel
set_option maxRecDepth 100000 in
theorem xk2_33 : x_m2 xm33 (2209, 1002) = true := x_m2_of rfl (by decide +kernel) (by decide +kernel)
set_option maxRecDepth 100000 in
theorem xk2_34 : x_m2 xm34 (2213, 1002) = true := x_m2_of rfl (by decide +kernel) (by decide +kernel)
set_option maxRecDepth 100000 in
theorem xk2_35 : x_m2 xm35 (2216, 1001) = true := x_m2_of rfl (by decide +kernel) (by decide +kernel)
set_option maxRecDepth 100000 in
theorem xk2_36 : x_m2 xm36 (2220, 1002) = true := x_m2_of rfl (by decide +kernel) (by decide +kernel)
set_option maxRecDepth 100000 in
theorem xk2_37 : x_m2 xm37 (2224, 1002) = true := x_m2_of rfl (by decide +kernel) (by decide +kernel)
set_option maxRecDepth 100000 in
theorem xk2_38 : x_m2 xm38 (2228, 1002) = true := x_m2_of rfl (by decide +kernel) (by decide +kernel)
set_option maxRecDepth 100000 in
theorem xk2_39 : x_m2 xm39 (2232, 1003) = true := x_m2_of rfl (by decide +kernel) (by decide +kernel)
set_option maxRecDepth 100000 in
theorem xk2_40 : x_m2 xm40 (2236, 1017) = true := x_m2_of rfl (by decide +kernel) (by decide +kernel)
set_option maxRecDepth 100000 in
theorem xk2_41 : x_m2 xm41 (3085, 1001) = true := x_m2_of rfl (by decide +kernel) (by decide +kernel)
set_option maxRecDepth 100000 in
theorem xk2_42 : x_m2 xm42 (3089, 1001) = true := x_m2_of rfl (by decide +kernel) (by decide +kernel)
set_option maxRecDepth 100000 in
theorem xk2_43 : x_m2 xm43 (3093, 1001) = true := x_m2_of rfl (by decide +kernel) (by decide +kernel)
set_option maxRecDepth 100000 in
theorem xk2_44 : x_m2 xm44 (3096, 1001) = true := x_m2_of rfl (by decide +kernel) (by decide +kernel)
set_option maxRecDepth 100000 in
theorem xk2_45 : x_m2 xm45 (3101, 1001) = true := x_m2_of rfl (by decide +kernel) (by decide +kernel)
set_option maxRecDepth 100000 in
theorem xk2_46 : x_m2 xm46 (3105, 1001) = true := x_m2_of rfl (by decide +kernel) (by decide +kernel)
set_option maxRecDepth 100000 in
theorem xk2_47 : x_m2 xm47 (3109, 1003) = true := x_m2_of rfl (by decide +kernel) (by decide +kernel)
set_option maxRecDepth 100000 in
theorem xk2_48 : x_m2 xm48 (3112, 1001) = true := x_m2_of rfl (by decide +kernel) (by decide +kernel)
theorem x_o3 : ∀ q ∈ x_mt3, ∃ b, x_m2 q b = true := List.forall_mem_cons.mpr ⟨⟨(2209, 1002), xk2_33⟩, List.forall_mem_cons.mpr ⟨⟨(2213, 1002), xk2_34⟩, List.forall_mem_cons.mpr ⟨⟨(2216, 1001), xk2_35⟩, List.forall_mem_cons.mpr ⟨⟨(2220, 1002), xk2_36⟩, List.forall_mem_cons.mpr ⟨⟨(2224, 1002), xk2_37⟩, List.forall_mem_cons.mpr ⟨⟨(2228, 1002), xk2_38⟩, List.forall_mem_cons.mpr ⟨⟨(2232, 1003), xk2_39⟩, List.forall_mem_cons.mpr ⟨⟨(2236, 1017), xk2_40⟩, List.forall_mem_cons.mpr ⟨⟨(3085, 1001), xk2_41⟩, List.forall_mem_cons.mpr ⟨⟨(3089, 1001), xk2_42⟩, List.forall_mem_cons.mpr ⟨⟨(3093, 1001), xk2_43⟩, List.forall_mem_cons.mpr ⟨⟨(3096, 1001), xk2_44⟩, List.forall_mem_cons.mpr ⟨⟨(3101, 1001), xk2_45⟩, List.forall_mem_cons.mpr ⟨⟨(3105, 1001), xk2_46⟩, List.forall_mem_cons.mpr ⟨⟨(3109, 1003), xk2_47⟩, List.forall_mem_cons.mpr ⟨⟨(3112, 1001), xk2_48⟩, fun _ h => absurd h List.not_mem_nil⟩⟩⟩⟩⟩⟩⟩⟩⟩⟩⟩⟩⟩⟩⟩⟩
end XFacts3
