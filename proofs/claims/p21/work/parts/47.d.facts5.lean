/-! The tables against the words, by the kernel: 5. -/
noncomputable section XFacts5
set_option maxRecDepth 100000 in
theorem x_n8 : x_mt8.all x_m1 = true := by decide +kernel
set_option maxRecDepth 100000 in
theorem xk2_113 : x_m2 xm113 (4130, 1001) = true := x_m2_of rfl (by decide +kernel) (by decide +kernel)
set_option maxRecDepth 100000 in
theorem xk2_114 : x_m2 xm114 (4134, 1004) = true := x_m2_of rfl (by decide +kernel) (by decide +kernel)
set_option maxRecDepth 100000 in
theorem xk2_115 : x_m2 xm115 (4141, 1001) = true := x_m2_of rfl (by decide +kernel) (by decide +kernel)
set_option maxRecDepth 100000 in
theorem xk2_116 : x_m2 xm116 (4145, 1005) = true := x_m2_of rfl (by decide +kernel) (by decide +kernel)
set_option maxRecDepth 100000 in
theorem xk2_117 : x_m2 xm117 (4150, 1001) = true := x_m2_of rfl (by decide +kernel) (by decide +kernel)
set_option maxRecDepth 100000 in
theorem xk2_118 : x_m2 xm118 (4154, 1019) = true := x_m2_of rfl (by decide +kernel) (by decide +kernel)
set_option maxRecDepth 100000 in
theorem xk2_119 : x_m2 xm119 (4179, 1001) = true := x_m2_of rfl (by decide +kernel) (by decide +kernel)
set_option maxRecDepth 100000 in
theorem xk2_120 : x_m2 xm120 (4183, 1001) = true := x_m2_of rfl (by decide +kernel) (by decide +kernel)
set_option maxRecDepth 100000 in
theorem xk2_121 : x_m2 xm121 (4187, 1019) = true := x_m2_of rfl (by decide +kernel) (by decide +kernel)
set_option maxRecDepth 100000 in
theorem xk2_123 : x_m2 xm123 (4196, 1019) = true := x_m2_of rfl (by decide +kernel) (by decide +kernel)
set_option maxRecDepth 100000 in
theorem xk2_124 : x_m2 xm124 (4200, 1001) = true := x_m2_of rfl (by decide +kernel) (by decide +kernel)
set_option maxRecDepth 100000 in
theorem xk2_125 : x_m2 xm125 (4204, 1019) = true := x_m2_of rfl (by decide +kernel) (by decide +kernel)
set_option maxRecDepth 100000 in
theorem xk2_126 : x_m2 xm126 (4207, 1020) = true := x_m2_of rfl (by decide +kernel) (by decide +kernel)
set_option maxRecDepth 100000 in
theorem xk2_127 : x_m2 xm127 (4214, 1019) = true := x_m2_of rfl (by decide +kernel) (by decide +kernel)
set_option maxRecDepth 100000 in
theorem xk2_128 : x_m2 xm128 (4219, 1019) = true := x_m2_of rfl (by decide +kernel) (by decide +kernel)
theorem x_o8 : ∀ q ∈ x_mt8, ∃ b, x_m2 q b = true := List.forall_mem_cons.mpr ⟨⟨(4130, 1001), xk2_113⟩, List.forall_mem_cons.mpr ⟨⟨(4134, 1004), xk2_114⟩, List.forall_mem_cons.mpr ⟨⟨(4141, 1001), xk2_115⟩, List.forall_mem_cons.mpr ⟨⟨(4145, 1005), xk2_116⟩, List.forall_mem_cons.mpr ⟨⟨(4150, 1001), xk2_117⟩, List.forall_mem_cons.mpr ⟨⟨(4154, 1019), xk2_118⟩, List.forall_mem_cons.mpr ⟨⟨(4179, 1001), xk2_119⟩, List.forall_mem_cons.mpr ⟨⟨(4183, 1001), xk2_120⟩, List.forall_mem_cons.mpr ⟨⟨(4187, 1019), xk2_121⟩, List.forall_mem_cons.mpr ⟨⟨(1025, 1001), xk2_1⟩, List.forall_mem_cons.mpr ⟨⟨(4196, 1019), xk2_123⟩, List.forall_mem_cons.mpr ⟨⟨(4200, 1001), xk2_124⟩, List.forall_mem_cons.mpr ⟨⟨(4204, 1019), xk2_125⟩, List.forall_mem_cons.mpr ⟨⟨(4207, 1020), xk2_126⟩, List.forall_mem_cons.mpr ⟨⟨(4214, 1019), xk2_127⟩, List.forall_mem_cons.mpr ⟨⟨(4219, 1019), xk2_128⟩, fun _ h => absurd h List.not_mem_nil⟩⟩⟩⟩⟩⟩⟩⟩⟩⟩⟩⟩⟩⟩⟩⟩
set_option maxRecDepth 100000 in
theorem x_n9 : x_mt9.all x_m1 = true := by decide +kernel
set_option maxRecDepth 100000 in
theorem xk2_129 : x_m2 xm129 (4223, 1019) = true := x_m2_of rfl (by decide +kernel) (by decide +kernel)
set_option maxRecDepth 100000 in
theorem xk2_130 : x_m2 xm130 (4227, 1019) = true := x_m2_of rfl (by decide +kernel) (by decide +kernel)
set_option maxRecDepth 100000 in
theorem xk2_131 : x_m2 xm131 (4232, 1001) = true := x_m2_of rfl (by decide +kernel) (by decide +kernel)
set_option maxRecDepth 100000 in
theorem xk2_132 : x_m2 xm132 (4236, 1001) = true := x_m2_of rfl (by decide +kernel) (by decide +kernel)
set_option maxRecDepth 100000 in
theorem xk2_133 : x_m2 xm133 (5000, 1001) = true := x_m2_of rfl (by decide +kernel) (by decide +kernel)
set_option maxRecDepth 100000 in
theorem xk2_134 : x_m2 xm134 (5004, 1001) = true := x_m2_of rfl (by decide +kernel) (by decide +kernel)
set_option maxRecDepth 100000 in
theorem xk2_135 : x_m2 xm135 (5008, 1001) = true := x_m2_of rfl (by decide +kernel) (by decide +kernel)
set_option maxRecDepth 100000 in
theorem xk2_136 : x_m2 xm136 (5012, 1001) = true := x_m2_of rfl (by decide +kernel) (by decide +kernel)
set_option maxRecDepth 100000 in
theorem xk2_137 : x_m2 xm137 (5016, 1001) = true := x_m2_of rfl (by decide +kernel) (by decide +kernel)
set_option maxRecDepth 100000 in
theorem xk2_138 : x_m2 xm138 (5021, 1001) = true := x_m2_of rfl (by decide +kernel) (by decide +kernel)
set_option maxRecDepth 100000 in
theorem xk2_139 : x_m2 xm139 (5025, 1001) = true := x_m2_of rfl (by decide +kernel) (by decide +kernel)
set_option maxRecDepth 100000 in
theorem xk2_140 : x_m2 xm140 (5030, 1001) = true := x_m2_of rfl (by decide +kernel) (by decide +kernel)
set_option maxRecDepth 100000 in
theorem xk2_141 : x_m2 xm141 (5034, 1001) = true := x_m2_of rfl (by decide +kernel) (by decide +kernel)
set_option maxRecDepth 100000 in
theorem xk2_142 : x_m2 xm142 (5038, 1001) = true := x_m2_of rfl (by decide +kernel) (by decide +kernel)
set_option maxRecDepth 100000 in
theorem xk2_143 : x_m2 xm143 (5042, 1001) = true := x_m2_of rfl (by decide +kernel) (by decide +kernel)
set_option maxRecDepth 100000 in
theorem xk2_144 : x_m2 xm144 (5046, 1001) = true := x_m2_of rfl (by decide +kernel) (by decide +kernel)
theorem x_o9 : ∀ q ∈ x_mt9, ∃ b, x_m2 q b = true := List.forall_mem_cons.mpr ⟨⟨(4223, 1019), xk2_129⟩, List.forall_mem_cons.mpr ⟨⟨(4227, 1019), xk2_130⟩, List.forall_mem_cons.mpr ⟨⟨(4232, 1001), xk2_131⟩, List.forall_mem_cons.mpr ⟨⟨(4236, 1001), xk2_132⟩, List.forall_mem_cons.mpr ⟨⟨(5000, 1001), xk2_133⟩, List.forall_mem_cons.mpr ⟨⟨(5004, 1001), xk2_134⟩, List.forall_mem_cons.mpr ⟨⟨(5008, 1001), xk2_135⟩, List.forall_mem_cons.mpr ⟨⟨(5012, 1001), xk2_136⟩, List.forall_mem_cons.mpr ⟨⟨(5016, 1001), xk2_137⟩, List.forall_mem_cons.mpr ⟨⟨(5021, 1001), xk2_138⟩, List.forall_mem_cons.mpr ⟨⟨(5025, 1001), xk2_139⟩, List.forall_mem_cons.mpr ⟨⟨(5030, 1001), xk2_140⟩, List.forall_mem_cons.mpr ⟨⟨(5034, 1001), xk2_141⟩, List.forall_mem_cons.mpr ⟨⟨(5038, 1001), xk2_142⟩, List.forall_mem_cons.mpr ⟨⟨(5042, 1001), xk2_143⟩, List.forall_mem_cons.mpr ⟨⟨(5046, 1001), xk2_144⟩, fun _ h => absurd h List.not_mem_nil⟩⟩⟩⟩⟩⟩⟩⟩⟩⟩⟩⟩⟩⟩⟩⟩
set_option maxRecDepth 100000 in
theorem x_n10 : x_mt10.all x_m1 = true := by decide +kernel
set_option maxRecDepth 100000 in
theorem xk2_145 : x_m2 xm145 (5050, 1001) = true := x_m2_of rfl (by decide +kernel) (by decide +kernel)
set_option maxRecDepth 100000 in
theorem xk2_146 : x_m2 xm146 (5054, 1001) = true := x_m2_of rfl (by decide +kernel) (by decide +kernel)
set_option maxRecDepth 100000 in
theorem xk2_147 : x_m2 xm147 (5058, 1001) = true := x_m2_of rfl (by decide +kernel) (by decide +kernel)
set_option maxRecDepth 100000 in
theorem xk2_148 : x_m2 xm148 (5062, 1008) = true := x_m2_of rfl (by decide +kernel) (by decide +kernel)
set_option maxRecDepth 100000 in
theorem xk2_149 : x_m2 xm149 (5066, 1008) = true := x_m2_of rfl (by decide +kernel) (by decide +kernel)
set_option maxRecDepth 100000 in
theorem xk2_150 : x_m2 xm150 (5070, 1008) = true := x_m2_of rfl (by decide +kernel) (by decide +kernel)
set_option maxRecDepth 100000 in
theorem xk2_152 : x_m2 xm152 (5079, 1001) = true := x_m2_of rfl (by decide +kernel) (by decide +kernel)
set_option maxRecDepth 100000 in
theorem xk2_153 : x_m2 xm153 (5083, 1008) = true := x_m2_of rfl (by decide +kernel) (by decide +kernel)
set_option maxRecDepth 100000 in
theorem xk2_154 : x_m2 xm154 (5087, 1008) = true := x_m2_of rfl (by decide +kernel) (by decide +kernel)
set_option maxRecDepth 100000 in
theorem xk2_155 : x_m2 xm155 (5092, 1008) = true := x_m2_of rfl (by decide +kernel) (by decide +kernel)
set_option maxRecDepth 100000 in
theorem xk2_156 : x_m2 xm156 (5096, 1008) = true := x_m2_of rfl (by decide +kernel) (by decide +kernel)
set_option maxRecDepth 100000 in
theorem xk2_157 : x_m2 xm157 (5100, 1001) = true := x_m2_of rfl (by decide +kernel) (by decide +kernel)
set_option maxRecDepth 100000 in
theorem xk2_158 : x_m2 xm158 (5104, 1009) = true := x_m2_of rfl (by decide +kernel) (by decide +kernel)
set_option maxRecDepth 100000 in
theorem xk2_159 : x_m2 xm159 (5108, 1001) = true := x_m2_of rfl (by decide +kernel) (by decide +kernel)
set_option maxRecDepth 100000 in
theorem xk2_160 : x_m2 xm160 (5112, 1009) = true := x_m2_of rfl (by decide +kernel) (by decide +kernel)
theorem x_o10 : ∀ q ∈ x_mt10, ∃ b, x_m2 q b = true := List.forall_mem_cons.mpr ⟨⟨(5050, 1001), xk2_145⟩, List.forall_mem_cons.mpr ⟨⟨(5054, 1001), xk2_146⟩, List.forall_mem_cons.mpr ⟨⟨(5058, 1001), xk2_147⟩, List.forall_mem_cons.mpr ⟨⟨(5062, 1008), xk2_148⟩, List.forall_mem_cons.mpr ⟨⟨(5066, 1008), xk2_149⟩, List.forall_mem_cons.mpr ⟨⟨(5070, 1008), xk2_150⟩, List.forall_mem_cons.mpr ⟨⟨(1025, 1001), xk2_1⟩, List.forall_mem_cons.mpr ⟨⟨(5079, 1001), xk2_152⟩, List.forall_mem_cons.mpr ⟨⟨(5083, 1008), xk2_153⟩, List.forall_mem_cons.mpr ⟨⟨(5087, 1008), xk2_154⟩, List.forall_mem_cons.mpr ⟨⟨(5092, 1008), xk2_155⟩, List.forall_mem_cons.mpr ⟨⟨(5096, 1008), xk2_156⟩, List.forall_mem_cons.mpr ⟨⟨(5100, 1001), xk2_157⟩, List.forall_mem_cons.mpr ⟨⟨(5104, 1009), xk2_158⟩, List.forall_mem_cons.mpr ⟨⟨(5108, 1001), xk2_159⟩, List.forall_mem_cons.mpr ⟨⟨(5112, 1009), xk2_160⟩, fun _ h => absurd h List.not_mem_nil⟩⟩⟩⟩⟩⟩⟩⟩⟩⟩⟩⟩⟩⟩⟩⟩
set_option maxRecDepth 100000 in
theorem x_n11 : x_mt11.all x_m1 = true := by decide +kernel
set_option maxRecDepth 100000 in
theorem xk2_161 : x_m2 xm161 (5116, 1009) = true := x_m2_of rfl (by decide +kernel) (by decide +kernel)
set_option maxRecDepth 100000 in
theorem xk2_162 : x_m2 xm162 (5120, 1009) = true := x_m2_of rfl (by decide +kernel) (by decide +kernel)
set_option maxRecDepth 100000 in
theorem xk2_163 : x_m2 xm163 (5124, 1009) = true := x_m2_of rfl (by decide +kernel) (by decide +kernel)
set_option maxRecDepth 100000 in
theorem xk2_164 : x_m2 xm164 (5128, 1009) = true := x_m2_of rfl (by decide +kernel) (by decide +kernel)
set_option maxRecDepth 100000 in
theorem xk2_165 : x_m2 xm165 (5132, 1009) = true := x_m2_of rfl (by decide +kernel) (by decide +kernel)
set_option maxRecDepth 100000 in
theorem xk2_166 : x_m2 xm166 (5136, 1001) = true := x_m2_of rfl (by decide +kernel) (by decide +kernel)
set_option maxRecDepth 100000 in
theorem xk2_167 : x_m2 xm167 (5140, 1009) = true := x_m2_of rfl (by decide +kernel) (by decide +kernel)
set_option maxRecDepth 100000 in
theorem xk2_168 : x_m2 xm168 (5145, 1001) = true := x_m2_of rfl (by decide +kernel) (by decide +kernel)
set_option maxRecDepth 100000 in
theorem xk2_169 : x_m2 xm169 (5149, 1009) = true := x_m2_of rfl (by decide +kernel) (by decide +kernel)
set_option maxRecDepth 100000 in
theorem xk2_170 : x_m2 xm170 (5152, 1009) = true := x_m2_of rfl (by decide +kernel) (by decide +kernel)
set_option maxRecDepth 100000 in
theorem xk2_171 : x_m2 xm171 (5156, 1001) = true := x_m2_of rfl (by decide +kernel) (by decide +kernel)
set_option maxRecDepth 100000 in
theorem xk2_172 : x_m2 xm172 (5160, 1001) = true := x_m2_of rfl (by decide +kernel) (by decide +kernel)
set_option maxRecDepth 100000 in
theorem xk2_173 : x_m2 xm173 (5164, 1001) = true := x_m2_of rfl (by decide +kernel) (by decide +kernel)
set_option maxRecDepth 100000 in
theorem xk2_174 : x_m2 xm174 (5168, 1001) = true := x_m2_of rfl (by decide +kernel) (by decide +kernel)
set_option maxRecDepth 100000 in
theorem xk2_175 : x_m2 xm175 (5172, 1010) = true := x_m2_of rfl (by decide +kernel) (by decide +kernel)
set_option maxRecDepth 100000 in
theorem xk2_176 : x_m2 xm176 (5176, 1001) = true := x_m2_of rfl (by decide +kernel) (by decide +kernel)
theorem x_o11 : ∀ q ∈ x_mt11, ∃ b, x_m2 q b = true := List.forall_mem_cons.mpr ⟨⟨(5116, 1009), xk2_161⟩, List.forall_mem_cons.mpr ⟨⟨(5120, 1009), xk2_162⟩, List.forall_mem_cons.mpr ⟨⟨(5124, 1009), xk2_163⟩, List.forall_mem_cons.mpr ⟨⟨(5128, 1009), xk2_164⟩, List.forall_mem_cons.mpr ⟨⟨(5132, 1009), xk2_165⟩, List.forall_mem_cons.mpr ⟨⟨(5136, 1001), xk2_166⟩, List.forall_mem_cons.mpr ⟨⟨(5140, 1009), xk2_167⟩, List.forall_mem_cons.mpr ⟨⟨(5145, 1001), xk2_168⟩, List.forall_mem_cons.mpr ⟨⟨(5149, 1009), xk2_169⟩, List.forall_mem_cons.mpr ⟨⟨(5152, 1009), xk2_170⟩, List.forall_mem_cons.mpr ⟨⟨(5156, 1001), xk2_171⟩, List.forall_mem_cons.mpr ⟨⟨(5160, 1001), xk2_172⟩, List.forall_mem_cons.mpr ⟨⟨(5164, 1001), xk2_173⟩, List.forall_mem_cons.mpr ⟨⟨(5168, 1001), xk2_174⟩, List.forall_mem_cons.mpr ⟨⟨(5172, 1010), xk2_175⟩, List.forall_mem_cons.mpr ⟨⟨(5176, 1001), xk2_176⟩, fun _ h => absurd h List.not_mem_nil⟩⟩⟩⟩⟩⟩⟩⟩⟩⟩⟩⟩⟩⟩⟩⟩
end XFacts5
