/-! The tables against the words, by the kernel: 7. -/
noncomputable section XFacts7
set_option maxRecDepth 100000 in
theorem x_n16 : x_mt16.all x_m1 = true := by decide +kernel
set_option maxRecDepth 100000 in
theorem xk2_241 : x_m2 xm241 (7183, 1011) = true := x_m2_of rfl (by decide +kernel) (by decide +kernel)
set_option maxRecDepth 100000 in
theorem xk2_242 : x_m2 xm242 (7188, 1011) = true := x_m2_of rfl (by decide +kernel) (by decide +kernel)
set_option maxRecDepth 100000 in
theorem xk2_243 : x_m2 xm243 (7192, 1011) = true := x_m2_of rfl (by decide +kernel) (by decide +kernel)
set_option maxRecDepth 100000 in
theorem xk2_244 : x_m2 xm244 (7196, 1011) = true := x_m2_of rfl (by decide +kernel) (by decide +kernel)
set_option maxRecDepth 100000 in
theorem xk2_245 : x_m2 xm245 (7200, 1011) = true := x_m2_of rfl (by decide +kernel) (by decide +kernel)
set_option maxRecDepth 100000 in
theorem xk2_246 : x_m2 xm246 (7204, 1011) = true := x_m2_of rfl (by decide +kernel) (by decide +kernel)
set_option maxRecDepth 100000 in
theorem xk2_247 : x_m2 xm247 (7208, 1011) = true := x_m2_of rfl (by decide +kernel) (by decide +kernel)
set_option maxRecDepth 100000 in
theorem xk2_248 : x_m2 xm248 (7212, 1011) = true := x_m2_of rfl (by decide +kernel) (by decide +kernel)
set_option maxRecDepth 100000 in
theorem xk2_249 : x_m2 xm249 (7216, 1011) = true := x_m2_of rfl (by decide +kernel) (by decide +kernel)
set_option maxRecDepth 100000 in
theorem xk2_250 : x_m2 xm250 (7220, 1011) = true := x_m2_of rfl (by decide +kernel) (by decide +kernel)
set_option maxRecDepth 100000 in
theorem xk2_251 : x_m2 xm251 (7224, 1011) = true := x_m2_of rfl (by decide +kernel) (by decide +kernel)
set_option maxRecDepth 100000 in
theorem xk2_252 : x_m2 xm252 (7227, 1011) = true := x_m2_of rfl (by decide +kernel) (by decide +kernel)
set_option maxRecDepth 100000 in
theorem xk2_253 : x_m2 xm253 (7231, 1011) = true := x_m2_of rfl (by decide +kernel) (by decide +kernel)
set_option maxRecDepth 100000 in
theorem xk2_254 : x_m2 xm254 (7235, 1011) = true := x_m2_of rfl (by decide +kernel) (by decide +kernel)
set_option maxRecDepth 100000 in
theorem xk2_255 : x_m2 xm255 (7239, 1011) = true := x_m2_of rfl (by decide +kernel) (by decide +kernel)
set_option maxRecDepth 100000 in
theorem xk2_256 : x_m2 xm256 (8004, 1011) = true := x_m2_of rfl (by decide +kernel) (by decide +kernel)
theorem x_o16 : ∀ q ∈ x_mt16, ∃ b, x_m2 q b = true := List.forall_mem_cons.mpr ⟨⟨(7183, 1011), xk2_241⟩, List.forall_mem_cons.mpr ⟨⟨(7188, 1011), xk2_242⟩, List.forall_mem_cons.mpr ⟨⟨(7192, 1011), xk2_243⟩, List.forall_mem_cons.mpr ⟨⟨(7196, 1011), xk2_244⟩, List.forall_mem_cons.mpr ⟨⟨(7200, 1011), xk2_245⟩, List.forall_mem_cons.mpr ⟨⟨(7204, 1011), xk2_246⟩, List.forall_mem_cons.mpr ⟨⟨(7208, 1011), xk2_247⟩, List.forall_mem_cons.mpr ⟨⟨(7212, 1011), xk2_248⟩, List.forall_mem_cons.mpr ⟨⟨(7216, 1011), xk2_249⟩, List.forall_mem_cons.mpr ⟨⟨(7220, 1011), xk2_250⟩, List.forall_mem_cons.mpr ⟨⟨(7224, 1011), xk2_251⟩, List.forall_mem_cons.mpr ⟨⟨(7227, 1011), xk2_252⟩, List.forall_mem_cons.mpr ⟨⟨(7231, 1011), xk2_253⟩, List.forall_mem_cons.mpr ⟨⟨(7235, 1011), xk2_254⟩, List.forall_mem_cons.mpr ⟨⟨(7239, 1011), xk2_255⟩, List.forall_mem_cons.mpr ⟨⟨(8004, 1011), xk2_256⟩, fun _ h => absurd h List.not_mem_nil⟩⟩⟩⟩⟩⟩⟩⟩⟩⟩⟩⟩⟩⟩⟩⟩
set_option maxRecDepth 100000 in
theorem x_n17 : x_mt17.all x_m1 = true := by decide +kernel
set_option maxRecDepth 100000 in
theorem xk2_257 : x_m2 xm257 (8008, 1011) = true := x_m2_of rfl (by decide +kernel) (by decide +kernel)
set_option maxRecDepth 100000 in
theorem xk2_258 : x_m2 xm258 (8012, 1011) = true := x_m2_of rfl (by decide +kernel) (by decide +kernel)
set_option maxRecDepth 100000 in
theorem xk2_259 : x_m2 xm259 (8016, 1011) = true := x_m2_of rfl (by decide +kernel) (by decide +kernel)
set_option maxRecDepth 100000 in
theorem xk2_260 : x_m2 xm260 (8020, 1011) = true := x_m2_of rfl (by decide +kernel) (by decide +kernel)
set_option maxRecDepth 100000 in
theorem xk2_261 : x_m2 xm261 (8024, 1011) = true := x_m2_of rfl (by decide +kernel) (by decide +kernel)
set_option maxRecDepth 100000 in
theorem xk2_262 : x_m2 xm262 (8029, 1011) = true := x_m2_of rfl (by decide +kernel) (by decide +kernel)
set_option maxRecDepth 100000 in
theorem xk2_263 : x_m2 xm263 (8033, 1011) = true := x_m2_of rfl (by decide +kernel) (by decide +kernel)
set_option maxRecDepth 100000 in
theorem xk2_264 : x_m2 xm264 (8037, 1011) = true := x_m2_of rfl (by decide +kernel) (by decide +kernel)
set_option maxRecDepth 100000 in
theorem xk2_265 : x_m2 xm265 (8041, 1011) = true := x_m2_of rfl (by decide +kernel) (by decide +kernel)
set_option maxRecDepth 100000 in
theorem xk2_266 : x_m2 xm266 (8044, 1011) = true := x_m2_of rfl (by decide +kernel) (by decide +kernel)
set_option maxRecDepth 100000 in
theorem xk2_267 : x_m2 xm267 (8047, 1011) = true := x_m2_of rfl (by decide +kernel) (by decide +kernel)
set_option maxRecDepth 100000 in
theorem xk2_268 : x_m2 xm268 (8051, 1011) = true := x_m2_of rfl (by decide +kernel) (by decide +kernel)
set_option maxRecDepth 100000 in
theorem xk2_269 : x_m2 xm269 (8055, 1011) = true := x_m2_of rfl (by decide +kernel) (by decide +kernel)
set_option maxRecDepth 100000 in
theorem xk2_270 : x_m2 xm270 (8059, 1011) = true := x_m2_of rfl (by decide +kernel) (by decide +kernel)
set_option maxRecDepth 100000 in
theorem xk2_271 : x_m2 xm271 (8063, 1011) = true := x_m2_of rfl (by decide +kernel) (by decide +kernel)
set_option maxRecDepth 100000 in
theorem xk2_272 : x_m2 xm272 (8067, 1011) = true := x_m2_of rfl (by decide +kernel) (by decide +kernel)
theorem x_o17 : ∀ q ∈ x_mt17, ∃ b, x_m2 q b = true := List.forall_mem_cons.mpr ⟨⟨(8008, 1011), xk2_257⟩, List.forall_mem_cons.mpr ⟨⟨(8012, 1011), xk2_258⟩, List.forall_mem_cons.mpr ⟨⟨(8016, 1011), xk2_259⟩, List.forall_mem_cons.mpr ⟨⟨(8020, 1011), xk2_260⟩, List.forall_mem_cons.mpr ⟨⟨(8024, 1011), xk2_261⟩, List.forall_mem_cons.mpr ⟨⟨(8029, 1011), xk2_262⟩, List.forall_mem_cons.mpr ⟨⟨(8033, 1011), xk2_263⟩, List.forall_mem_cons.mpr ⟨⟨(8037, 1011), xk2_264⟩, List.forall_mem_cons.mpr ⟨⟨(8041, 1011), xk2_265⟩, List.forall_mem_cons.mpr ⟨⟨(8044, 1011), xk2_266⟩, List.forall_mem_cons.mpr ⟨⟨(8047, 1011), xk2_267⟩, List.forall_mem_cons.mpr ⟨⟨(8051, 1011), xk2_268⟩, List.forall_mem_cons.mpr ⟨⟨(8055, 1011), xk2_269⟩, List.forall_mem_cons.mpr ⟨⟨(8059, 1011), xk2_270⟩, List.forall_mem_cons.mpr ⟨⟨(8063, 1011), xk2_271⟩, List.forall_mem_cons.mpr ⟨⟨(8067, 1011), xk2_272⟩, fun _ h => absurd h List.not_mem_nil⟩⟩⟩⟩⟩⟩⟩⟩⟩⟩⟩⟩⟩⟩⟩⟩
set_option maxRecDepth 100000 in
theorem x_n18 : x_mt18.all x_m1 = true := by decide +kernel
set_option maxRecDepth 100000 in
theorem xk2_273 : x_m2 xm273 (8071, 1011) = true := x_m2_of rfl (by decide +kernel) (by decide +kernel)
set_option maxRecDepth 100000 in
theorem xk2_274 : x_m2 xm274 (8075, 1011) = true := x_m2_of rfl (by decide +kernel) (by decide +kernel)
theorem x_o18 : ∀ q ∈ x_mt18, ∃ b, x_m2 q b = true := List.forall_mem_cons.mpr ⟨⟨(8071, 1011), xk2_273⟩, List.forall_mem_cons.mpr ⟨⟨(8075, 1011), xk2_274⟩, fun _ h => absurd h List.not_mem_nil⟩⟩
end XFacts7
