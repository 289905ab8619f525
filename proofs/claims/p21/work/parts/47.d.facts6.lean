/-! The tables against the words, by the kernel: 6. -/
noncomputable section XFacts6
set_option maxRecDepth 100000 in
theorem x_n12 : x_mt12.all x_m1 = true := by decide +kernel
set_option maxRecDepth 100000 in
theorem xk2_177 : x_m2 xm177 (5180, 1010) = true := x_m2_of rfl (by decide +kernel) (by decide +kernel)
set_option maxRecDepth 100000 in
theorem xk2_178 : x_m2 xm178 (5184, 1001) = true := x_m2_of rfl (by decide +kernel) (by decide +kernel)
set_option maxRecDepth 100000 in
theorem xk2_179 : x_m2 xm179 (5190, 1011) = true := x_m2_of rfl (by decide +kernel) (by decide +kernel)
set_option maxRecDepth 100000 in
theorem xk2_180 : x_m2 xm180 (6168, 1011) = true := x_m2_of rfl (by decide +kernel) (by decide +kernel)
set_option maxRecDepth 100000 in
theorem xk2_181 : x_m2 xm181 (6171, 1011) = true := x_m2_of rfl (by decide +kernel) (by decide +kernel)
set_option maxRecDepth 100000 in
theorem xk2_182 : x_m2 xm182 (6175, 1011) = true := x_m2_of rfl (by decide +kernel) (by decide +kernel)
set_option maxRecDepth 100000 in
theorem xk2_183 : x_m2 xm183 (6179, 1011) = true := x_m2_of rfl (by decide +kernel) (by decide +kernel)
set_option maxRecDepth 100000 in
theorem xk2_184 : x_m2 xm184 (6183, 1011) = true := x_m2_of rfl (by decide +kernel) (by decide +kernel)
set_option maxRecDepth 100000 in
theorem xk2_185 : x_m2 xm185 (6187, 1011) = true := x_m2_of rfl (by decide +kernel) (by decide +kernel)
set_option maxRecDepth 100000 in
theorem xk2_186 : x_m2 xm186 (6192, 1011) = true := x_m2_of rfl (by decide +kernel) (by decide +kernel)
set_option maxRecDepth 100000 in
theorem xk2_187 : x_m2 xm187 (6196, 1011) = true := x_m2_of rfl (by decide +kernel) (by decide +kernel)
set_option maxRecDepth 100000 in
theorem xk2_188 : x_m2 xm188 (6202, 1011) = true := x_m2_of rfl (by decide +kernel) (by decide +kernel)
set_option maxRecDepth 100000 in
theorem xk2_189 : x_m2 xm189 (6206, 1011) = true := x_m2_of rfl (by decide +kernel) (by decide +kernel)
set_option maxRecDepth 100000 in
theorem xk2_190 : x_m2 xm190 (6210, 1011) = true := x_m2_of rfl (by decide +kernel) (by decide +kernel)
set_option maxRecDepth 100000 in
theorem xk2_191 : x_m2 xm191 (6214, 1011) = true := x_m2_of rfl (by decide +kernel) (by decide +kernel)
set_option maxRecDepth 100000 in
theorem xk2_192 : x_m2 xm192 (6220, 1011) = true := x_m2_of rfl (by decide +kernel) (by decide +kernel)
theorem x_o12 : ∀ q ∈ x_mt12, ∃ b, x_m2 q b = true := List.forall_mem_cons.mpr ⟨⟨(5180, 1010), xk2_177⟩, List.forall_mem_cons.mpr ⟨⟨(5184, 1001), xk2_178⟩, List.forall_mem_cons.mpr ⟨⟨(5190, 1011), xk2_179⟩, List.forall_mem_cons.mpr ⟨⟨(6168, 1011), xk2_180⟩, List.forall_mem_cons.mpr ⟨⟨(6171, 1011), xk2_181⟩, List.forall_mem_cons.mpr ⟨⟨(6175, 1011), xk2_182⟩, List.forall_mem_cons.mpr ⟨⟨(6179, 1011), xk2_183⟩, List.forall_mem_cons.mpr ⟨⟨(6183, 1011), xk2_184⟩, List.forall_mem_cons.mpr ⟨⟨(6187, 1011), xk2_185⟩, List.forall_mem_cons.mpr ⟨⟨(6192, 1011), xk2_186⟩, List.forall_mem_cons.mpr ⟨⟨(6196, 1011), xk2_187⟩, List.forall_mem_cons.mpr ⟨⟨(6202, 1011), xk2_188⟩, List.forall_mem_cons.mpr ⟨⟨(6206, 1011), xk2_189⟩, List.forall_mem_cons.mpr ⟨⟨(6210, 1011), xk2_190⟩, List.forall_mem_cons.mpr ⟨⟨(6214, 1011), xk2_191⟩, List.forall_mem_cons.mpr ⟨⟨(6220, 1011), xk2_192⟩, fun _ h => absurd h List.not_mem_nil⟩⟩⟩⟩⟩⟩⟩⟩⟩⟩⟩⟩⟩⟩⟩⟩
set_option maxRecDepth 100000 in
theorem x_n13 : x_mt13.all x_m1 = true := by decide +kernel
set_option maxRecDepth 100000 in
theorem xk2_193 : x_m2 xm193 (6224, 1011) = true := x_m2_of rfl (by decide +kernel) (by decide +kernel)
set_option maxRecDepth 100000 in
theorem xk2_194 : x_m2 xm194 (6231, 1011) = true := x_m2_of rfl (by decide +kernel) (by decide +kernel)
set_option maxRecDepth 100000 in
theorem xk2_195 : x_m2 xm195 (7002, 1011) = true := x_m2_of rfl (by decide +kernel) (by decide +kernel)
set_option maxRecDepth 100000 in
theorem xk2_196 : x_m2 xm196 (7005, 1011) = true := x_m2_of rfl (by decide +kernel) (by decide +kernel)
set_option maxRecDepth 100000 in
theorem xk2_197 : x_m2 xm197 (7008, 1011) = true := x_m2_of rfl (by decide +kernel) (by decide +kernel)
set_option maxRecDepth 100000 in
theorem xk2_198 : x_m2 xm198 (7012, 1011) = true := x_m2_of rfl (by decide +kernel) (by decide +kernel)
set_option maxRecDepth 100000 in
theorem xk2_199 : x_m2 xm199 (7015, 1011) = true := x_m2_of rfl (by decide +kernel) (by decide +kernel)
set_option maxRecDepth 100000 in
theorem xk2_200 : x_m2 xm200 (7019, 1011) = true := x_m2_of rfl (by decide +kernel) (by decide +kernel)
set_option maxRecDepth 100000 in
theorem xk2_201 : x_m2 xm201 (7023, 1011) = true := x_m2_of rfl (by decide +kernel) (by decide +kernel)
set_option maxRecDepth 100000 in
theorem xk2_202 : x_m2 xm202 (7027, 1011) = true := x_m2_of rfl (by decide +kernel) (by decide +kernel)
set_option maxRecDepth 100000 in
theorem xk2_203 : x_m2 xm203 (7031, 1011) = true := x_m2_of rfl (by decide +kernel) (by decide +kernel)
set_option maxRecDepth 100000 in
theorem xk2_204 : x_m2 xm204 (7035, 1011) = true := x_m2_of rfl (by decide +kernel) (by decide +kernel)
set_option maxRecDepth 100000 in
theorem xk2_205 : x_m2 xm205 (7039, 1011) = true := by
  have h1 : x_w 7039 (.code (mY xm205) (mB xm205) (mL xm205) (mR xm205)) = true := by
    have e : (x_seg.getD (7039 / 1000) [])[7039 % 1000]? = some (.code (mY xm205) (mB xm205) (mL xm205) (mR xm205)) := rfl
    unfold x_w
    rw [decide_eq_true e]
    rfl
  have h2 : x_w 1011 (.initialized (mY xm205).cls) = true := by decide +kernel
  unfold x_m2
  rw [h1, h2]
  rfl
set_option maxRecDepth 100000 in
theorem xk2_206 : x_m2 xm206 (7043, 1011) = true := x_m2_of rfl (by decide +kernel) (by decide +kernel)
set_option maxRecDepth 100000 in
theorem xk2_207 : x_m2 xm207 (7048, 1011) = true := x_m2_of rfl (by decide +kernel) (by decide +kernel)
set_option maxRecDepth 100000 in
theorem xk2_208 : x_m2 xm208 (7052, 1011) = true := x_m2_of rfl (by decide +kernel) (by decide +kernel)
theorem x_o13 : ∀ q ∈ x_mt13, ∃ b, x_m2 q b = true := List.forall_mem_cons.mpr ⟨⟨(6224, 1011), xk2_193⟩, List.forall_mem_cons.mpr ⟨⟨(6231, 1011), xk2_194⟩, List.forall_mem_cons.mpr ⟨⟨(7002, 1011), xk2_195⟩, List.forall_mem_cons.mpr ⟨⟨(7005, 1011), xk2_196⟩, List.forall_mem_cons.mpr ⟨⟨(7008, 1011), xk2_197⟩, List.forall_mem_cons.mpr ⟨⟨(7012, 1011), xk2_198⟩, List.forall_mem_cons.mpr ⟨⟨(7015, 1011), xk2_199⟩, List.forall_mem_cons.mpr ⟨⟨(7019, 1011), xk2_200⟩, List.forall_mem_cons.mpr ⟨⟨(7023, 1011), xk2_201⟩, List.forall_mem_cons.mpr ⟨⟨(7027, 1011), xk2_202⟩, List.forall_mem_cons.mpr ⟨⟨(7031, 1011), xk2_203⟩, List.forall_mem_cons.mpr ⟨⟨(7035, 1011), xk2_204⟩, List.forall_mem_cons.mpr ⟨⟨(7039, 1011), xk2_205⟩, List.forall_mem_cons.mpr ⟨⟨(7043, 1011), xk2_206⟩, List.forall_mem_cons.mpr ⟨⟨(7048, 1011), xk2_207⟩, List.forall_mem_cons.mpr ⟨⟨(7052, 1011), xk2_208⟩, fun _ h => absurd h List.not_mem_nil⟩⟩⟩⟩⟩⟩⟩⟩⟩⟩⟩⟩⟩⟩⟩⟩
set_option maxRecDepth 100000 in
theorem x_n14 : x_mt14.all x_m1 = true := by decide +kernel
set_option maxRecDepth 100000 in
theorem xk2_209 : x_m2 xm209 (7056, 1011) = true := x_m2_of rfl (by decide +kernel) (by decide +kernel)
set_option maxRecDepth 100000 in
theorem xk2_210 : x_m2 xm210 (7060, 1011) = true := x_m2_of rfl (by decide +kernel) (by decide +kernel)
set_option maxRecDepth 100000 in
theorem xk2_211 : x_m2 xm211 (7063, 1011) = true := x_m2_of rfl (by decide +kernel) (by decide +kernel)
set_option maxRecDepth 100000 in
theorem xk2_212 : x_m2 xm212 (7067, 1011) = true := x_m2_of rfl (by decide +kernel) (by decide +kernel)
set_option maxRecDepth 100000 in
theorem xk2_213 : x_m2 xm213 (7071, 1011) = true := x_m2_of rfl (by decide +kernel) (by decide +kernel)
set_option maxRecDepth 100000 in
theorem xk2_214 : x_m2 xm214 (7075, 1011) = true := x_m2_of rfl (by decide +kernel) (by decide +kernel)
set_option maxRecDepth 100000 in
theorem xk2_215 : x_m2 xm215 (7079, 1011) = true := x_m2_of rfl (by decide +kernel) (by decide +kernel)
set_option maxRecDepth 100000 in
theorem xk2_216 : x_m2 xm216 (7083, 1011) = true := x_m2_of rfl (by decide +kernel) (by decide +kernel)
set_option maxRecDepth 100000 in
theorem xk2_217 : x_m2 xm217 (7087, 1011) = true := x_m2_of rfl (by decide +kernel) (by decide +kernel)
set_option maxRecDepth 100000 in
theorem xk2_218 : x_m2 xm218 (7091, 1011) = true := x_m2_of rfl (by decide +kernel) (by decide +kernel)
set_option maxRecDepth 100000 in
theorem xk2_219 : x_m2 xm219 (7095, 1011) = true := x_m2_of rfl (by decide +kernel) (by decide +kernel)
set_option maxRecDepth 100000 in
theorem xk2_220 : x_m2 xm220 (7099, 1011) = true := x_m2_of rfl (by decide +kernel) (by decide +kernel)
set_option maxRecDepth 100000 in
theorem xk2_221 : x_m2 xm221 (7103, 1011) = true := x_m2_of rfl (by decide +kernel) (by decide +kernel)
set_option maxRecDepth 100000 in
theorem xk2_222 : x_m2 xm222 (7107, 1011) = true := x_m2_of rfl (by decide +kernel) (by decide +kernel)
set_option maxRecDepth 100000 in
theorem xk2_223 : x_m2 xm223 (7111, 1011) = true := x_m2_of rfl (by decide +kernel) (by decide +kernel)
set_option maxRecDepth 100000 in
theorem xk2_224 : x_m2 xm224 (7117, 1011) = true := x_m2_of rfl (by decide +kernel) (by decide +kernel)
theorem x_o14 : ∀ q ∈ x_mt14, ∃ b, x_m2 q b = true := List.forall_mem_cons.mpr ⟨⟨(7056, 1011), xk2_209⟩, List.forall_mem_cons.mpr ⟨⟨(7060, 1011), xk2_210⟩, List.forall_mem_cons.mpr ⟨⟨(7063, 1011), xk2_211⟩, List.forall_mem_cons.mpr ⟨⟨(7067, 1011), xk2_212⟩, List.forall_mem_cons.mpr ⟨⟨(7071, 1011), xk2_213⟩, List.forall_mem_cons.mpr ⟨⟨(7075, 1011), xk2_214⟩, List.forall_mem_cons.mpr ⟨⟨(7079, 1011), xk2_215⟩, List.forall_mem_cons.mpr ⟨⟨(7083, 1011), xk2_216⟩, List.forall_mem_cons.mpr ⟨⟨(7087, 1011), xk2_217⟩, List.forall_mem_cons.mpr ⟨⟨(7091, 1011), xk2_218⟩, List.forall_mem_cons.mpr ⟨⟨(7095, 1011), xk2_219⟩, List.forall_mem_cons.mpr ⟨⟨(7099, 1011), xk2_220⟩, List.forall_mem_cons.mpr ⟨⟨(7103, 1011), xk2_221⟩, List.forall_mem_cons.mpr ⟨⟨(7107, 1011), xk2_222⟩, List.forall_mem_cons.mpr ⟨⟨(7111, 1011), xk2_223⟩, List.forall_mem_cons.mpr ⟨⟨(7117, 1011), xk2_224⟩, fun _ h => absurd h List.not_mem_nil⟩⟩⟩⟩⟩⟩⟩⟩⟩⟩⟩⟩⟩⟩⟩⟩
set_option maxRecDepth 100000 in
theorem x_n15 : x_mt15.all x_m1 = true := by decide +kernel
set_option maxRecDepth 100000 in
theorem xk2_225 : x_m2 xm225 (7121, 1011) = true := x_m2_of rfl (by decide +kernel) (by decide +kernel)
set_option maxRecDepth 100000 in
theorem xk2_226 : x_m2 xm226 (7125, 1011) = true := x_m2_of rfl (by decide +kernel) (by decide +kernel)
set_option maxRecDepth 100000 in
theorem xk2_227 : x_m2 xm227 (7129, 1011) = true := x_m2_of rfl (by decide +kernel) (by decide +kernel)
set_option maxRecDepth 100000 in
theorem xk2_228 : x_m2 xm228 (7133, 1011) = true := x_m2_of rfl (by decide +kernel) (by decide +kernel)
set_option maxRecDepth 100000 in
theorem xk2_229 : x_m2 xm229 (7137, 1011) = true := x_m2_of rfl (by decide +kernel) (by decide +kernel)
set_option maxRecDepth 100000 in
theorem xk2_230 : x_m2 xm230 (7141, 1011) = true := x_m2_of rfl (by decide +kernel) (by decide +kernel)
set_option maxRecDepth 100000 in
theorem xk2_231 : x_m2 xm231 (7145, 1011) = true := x_m2_of rfl (by decide +kernel) (by decide +kernel)
set_option maxRecDepth 100000 in
theorem xk2_232 : x_m2 xm232 (7149, 1011) = true := x_m2_of rfl (by decide +kernel) (by decide +kernel)
set_option maxRecDepth 100000 in
theorem xk2_233 : x_m2 xm233 (7153, 1011) = true := x_m2_of rfl (by decide +kernel) (by decide +kernel)
set_option maxRecDepth 100000 in
theorem xk2_234 : x_m2 xm234 (7156, 1011) = true := x_m2_of rfl (by decide +kernel) (by decide +kernel)
set_option maxRecDepth 100000 in
theorem xk2_235 : x_m2 xm235 (7160, 1011) = true := x_m2_of rfl (by decide +kernel) (by decide +kernel)
set_option maxRecDepth 100000 in
theorem xk2_236 : x_m2 xm236 (7164, 1011) = true := x_m2_of rfl (by decide +kernel) (by decide +kernel)
set_option maxRecDepth 100000 in
theorem xk2_237 : x_m2 xm237 (7167, 1011) = true := x_m2_of rfl (by decide +kernel) (by decide +kernel)
set_option maxRecDepth 100000 in
theorem xk2_238 : x_m2 xm238 (7171, 1011) = true := x_m2_of rfl (by decide +kernel) (by decide +kernel)
set_option maxRecDepth 100000 in
theorem xk2_239 : x_m2 xm239 (7175, 1011) = true := x_m2_of rfl (by decide +kernel) (by decide +kernel)
set_option maxRecDepth 100000 in
theorem xk2_240 : x_m2 xm240 (7179, 1011) = true := x_m2_of rfl (by decide +kernel) (by decide +kernel)
theorem x_o15 : ∀ q ∈ x_mt15, ∃ b, x_m2 q b = true := List.forall_mem_cons.mpr ⟨⟨(7121, 1011), xk2_225⟩, List.forall_mem_cons.mpr ⟨⟨(7125, 1011), xk2_226⟩, List.forall_mem_cons.mpr ⟨⟨(7129, 1011), xk2_227⟩, List.forall_mem_cons.mpr ⟨⟨(7133, 1011), xk2_228⟩, List.forall_mem_cons.mpr ⟨⟨(7137, 1011), xk2_229⟩, List.forall_mem_cons.mpr ⟨⟨(7141, 1011), xk2_230⟩, List.forall_mem_cons.mpr ⟨⟨(7145, 1011), xk2_231⟩, List.forall_mem_cons.mpr ⟨⟨(7149, 1011), xk2_232⟩, List.forall_mem_cons.mpr ⟨⟨(7153, 1011), xk2_233⟩, List.forall_mem_cons.mpr ⟨⟨(7156, 1011), xk2_234⟩, List.forall_mem_cons.mpr ⟨⟨(7160, 1011), xk2_235⟩, List.forall_mem_cons.mpr ⟨⟨(7164, 1011), xk2_236⟩, List.forall_mem_cons.mpr ⟨⟨(7167, 1011), xk2_237⟩, List.forall_mem_cons.mpr ⟨⟨(7171, 1011), xk2_238⟩, List.forall_mem_cons.mpr ⟨⟨(7175, 1011), xk2_239⟩, List.forall_mem_cons.mpr ⟨⟨(7179, 1011), xk2_240⟩, fun _ h => absurd h List.not_mem_nil⟩⟩⟩⟩⟩⟩⟩⟩⟩⟩⟩⟩⟩⟩⟩⟩
end XFacts6
