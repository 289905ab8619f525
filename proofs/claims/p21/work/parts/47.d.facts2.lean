/-! The tables against the words, by the kernel: 2. -/
noncomputable section XFacts2
set_option maxRecDepth 100000 in
theorem kx_caT_0_0 : x_row (x_cchk 0) x_caT_0_0 = true := by decide +kernel
set_option maxRecDepth 100000 in
theorem kx_caT_0_1 : x_row (x_cchk 0) x_caT_0_1 = true := by decide +kernel
set_option maxRecDepth 100000 in
theorem kx_caT_0_2 : x_row (x_cchk 0) x_caT_0_2 = true := by decide +kernel
set_option maxRecDepth 100000 in
theorem kx_caT_0_3 : x_row (x_cchk 0) x_caT_0_3 = true := by decide +kernel
set_option maxRecDepth 100000 in
theorem kx_caT_1_0 : x_row (x_cchk 1) x_caT_1_0 = true := by decide +kernel
set_option maxRecDepth 100000 in
theorem kx_caT_2_0 : x_row (x_cchk 2) x_caT_2_0 = true := by decide +kernel
set_option maxRecDepth 100000 in
theorem kx_caT_3_0 : x_row (x_cchk 3) x_caT_3_0 = true := by decide +kernel
set_option maxRecDepth 100000 in
theorem kx_caT_4_0 : x_row (x_cchk 4) x_caT_4_0 = true := by decide +kernel
set_option maxRecDepth 100000 in
theorem kx_caT_5_0 : x_row (x_cchk 5) x_caT_5_0 = true := by decide +kernel
set_option maxRecDepth 100000 in
theorem kx_caT_6_0 : x_row (x_cchk 6) x_caT_6_0 = true := by decide +kernel
set_option maxRecDepth 100000 in
theorem kx_caT_7_0 : x_row (x_cchk 7) x_caT_7_0 = true := by decide +kernel
set_option maxRecDepth 100000 in
theorem kx_caT_8_0 : x_row (x_cchk 8) x_caT_8_0 = true := by decide +kernel
set_option maxRecDepth 100000 in
theorem kx_caT_9_0 : x_row (x_cchk 9) x_caT_9_0 = true := by decide +kernel
set_option maxRecDepth 100000 in
theorem kx_caT_10_0 : x_row (x_cchk 10) x_caT_10_0 = true := by decide +kernel
set_option maxRecDepth 100000 in
theorem kx_caT_11_0 : x_row (x_cchk 11) x_caT_11_0 = true := by decide +kernel
set_option maxRecDepth 100000 in
theorem kx_caT_12_0 : x_row (x_cchk 12) x_caT_12_0 = true := by decide +kernel
set_option maxRecDepth 100000 in
theorem kx_caT_12_1 : x_row (x_cchk 12) x_caT_12_1 = true := by decide +kernel
set_option maxRecDepth 100000 in
theorem kx_caT_12_2 : x_row (x_cchk 12) x_caT_12_2 = true := by decide +kernel
set_option maxRecDepth 100000 in
theorem kx_caT_15_0 : x_row (x_cchk 15) x_caT_15_0 = true := by decide +kernel
set_option maxRecDepth 100000 in
theorem kx_caT_16_0 : x_row (x_cchk 16) x_caT_16_0 = true := by decide +kernel
set_option maxRecDepth 100000 in
theorem kx_caT_17_0 : x_row (x_cchk 17) x_caT_17_0 = true := by decide +kernel
set_option maxRecDepth 100000 in
theorem kx_caT_20_0 : x_row (x_cchk 20) x_caT_20_0 = true := by decide +kernel
set_option maxRecDepth 100000 in
theorem kx_caT_20_1 : x_row (x_cchk 20) x_caT_20_1 = true := by decide +kernel
set_option maxRecDepth 100000 in
theorem kx_caT_20_2 : x_row (x_cchk 20) x_caT_20_2 = true := by decide +kernel
set_option maxRecDepth 100000 in
theorem kx_caT_20_3 : x_row (x_cchk 20) x_caT_20_3 = true := by decide +kernel
theorem x_k_ca : x_AllP x_cchk x_caT
  | 0 => List.forall_mem_append.mpr ⟨x_row_spec kx_caT_0_0, List.forall_mem_append.mpr ⟨x_row_spec kx_caT_0_1, List.forall_mem_append.mpr ⟨x_row_spec kx_caT_0_2, x_row_spec kx_caT_0_3⟩⟩⟩
  | 1 => x_row_spec kx_caT_1_0
  | 2 => x_row_spec kx_caT_2_0
  | 3 => x_row_spec kx_caT_3_0
  | 4 => x_row_spec kx_caT_4_0
  | 5 => x_row_spec kx_caT_5_0
  | 6 => x_row_spec kx_caT_6_0
  | 7 => x_row_spec kx_caT_7_0
  | 8 => x_row_spec kx_caT_8_0
  | 9 => x_row_spec kx_caT_9_0
  | 10 => x_row_spec kx_caT_10_0
  | 11 => x_row_spec kx_caT_11_0
  | 12 => List.forall_mem_append.mpr ⟨x_row_spec kx_caT_12_0, List.forall_mem_append.mpr ⟨x_row_spec kx_caT_12_1, x_row_spec kx_caT_12_2⟩⟩
  | 13 => fun _ h => absurd h List.not_mem_nil
  | 14 => fun _ h => absurd h List.not_mem_nil
  | 15 => x_row_spec kx_caT_15_0
  | 16 => x_row_spec kx_caT_16_0
  | 17 => x_row_spec kx_caT_17_0
  | 18 => fun _ h => absurd h List.not_mem_nil
  | 19 => fun _ h => absurd h List.not_mem_nil
  | 20 => List.forall_mem_append.mpr ⟨x_row_spec kx_caT_20_0, List.forall_mem_append.mpr ⟨x_row_spec kx_caT_20_1, List.forall_mem_append.mpr ⟨x_row_spec kx_caT_20_2, x_row_spec kx_caT_20_3⟩⟩⟩
  | _ + 21 => fun _ h => by simp [x_caT] at h
set_option maxRecDepth 100000 in
theorem kx_biT_0_0 : x_row (x_bchk 0) x_biT_0_0 = true := by decide +kernel
set_option maxRecDepth 100000 in
theorem kx_biT_1_0 : x_row (x_bchk 1) x_biT_1_0 = true := by decide +kernel
set_option maxRecDepth 100000 in
theorem kx_biT_2_0 : x_row (x_bchk 2) x_biT_2_0 = true := by decide +kernel
set_option maxRecDepth 100000 in
theorem kx_biT_3_0 : x_row (x_bchk 3) x_biT_3_0 = true := by decide +kernel
set_option maxRecDepth 100000 in
theorem kx_biT_4_0 : x_row (x_bchk 4) x_biT_4_0 = true := by decide +kernel
set_option maxRecDepth 100000 in
theorem kx_biT_5_0 : x_row (x_bchk 5) x_biT_5_0 = true := by decide +kernel
set_option maxRecDepth 100000 in
theorem kx_biT_6_0 : x_row (x_bchk 6) x_biT_6_0 = true := by decide +kernel
set_option maxRecDepth 100000 in
theorem kx_biT_7_0 : x_row (x_bchk 7) x_biT_7_0 = true := by decide +kernel
set_option maxRecDepth 100000 in
theorem kx_biT_8_0 : x_row (x_bchk 8) x_biT_8_0 = true := by decide +kernel
set_option maxRecDepth 100000 in
theorem kx_biT_9_0 : x_row (x_bchk 9) x_biT_9_0 = true := by decide +kernel
set_option maxRecDepth 100000 in
theorem kx_biT_10_0 : x_row (x_bchk 10) x_biT_10_0 = true := by decide +kernel
set_option maxRecDepth 100000 in
theorem kx_biT_11_0 : x_row (x_bchk 11) x_biT_11_0 = true := by decide +kernel
set_option maxRecDepth 100000 in
theorem kx_biT_12_0 : x_row (x_bchk 12) x_biT_12_0 = true := by decide +kernel
theorem x_k_bi : x_AllP x_bchk x_biT
  | 0 => x_row_spec kx_biT_0_0
  | 1 => x_row_spec kx_biT_1_0
  | 2 => x_row_spec kx_biT_2_0
  | 3 => x_row_spec kx_biT_3_0
  | 4 => x_row_spec kx_biT_4_0
  | 5 => x_row_spec kx_biT_5_0
  | 6 => x_row_spec kx_biT_6_0
  | 7 => x_row_spec kx_biT_7_0
  | 8 => x_row_spec kx_biT_8_0
  | 9 => x_row_spec kx_biT_9_0
  | 10 => x_row_spec kx_biT_10_0
  | 11 => x_row_spec kx_biT_11_0
  | 12 => x_row_spec kx_biT_12_0
  | 13 => fun _ h => absurd h List.not_mem_nil
  | 14 => fun _ h => absurd h List.not_mem_nil
  | 15 => fun _ h => absurd h List.not_mem_nil
  | 16 => fun _ h => absurd h List.not_mem_nil
  | 17 => fun _ h => absurd h List.not_mem_nil
  | 18 => fun _ h => absurd h List.not_mem_nil
  | 19 => fun _ h => absurd h List.not_mem_nil
  | 20 => fun _ h => absurd h List.not_mem_nil
  | _ + 21 => fun _ h => by simp [x_biT] at h
set_option maxRecDepth 100000 in
theorem kx_liT_12_0 : x_row (x_lchk 12) x_liT_12_0 = true := by decide +kernel
set_option maxRecDepth 100000 in
theorem kx_liT_13_0 : x_row (x_lchk 13) x_liT_13_0 = true := by decide +kernel
theorem x_k_li : x_AllP x_lchk x_liT
  | 0 => fun _ h => absurd h List.not_mem_nil
  | 1 => fun _ h => absurd h List.not_mem_nil
  | 2 => fun _ h => absurd h List.not_mem_nil
  | 3 => fun _ h => absurd h List.not_mem_nil
  | 4 => fun _ h => absurd h List.not_mem_nil
  | 5 => fun _ h => absurd h List.not_mem_nil
  | 6 => fun _ h => absurd h List.not_mem_nil
  | 7 => fun _ h => absurd h List.not_mem_nil
  | 8 => fun _ h => absurd h List.not_mem_nil
  | 9 => fun _ h => absurd h List.not_mem_nil
  | 10 => fun _ h => absurd h List.not_mem_nil
  | 11 => fun _ h => absurd h List.not_mem_nil
  | 12 => x_row_spec kx_liT_12_0
  | 13 => x_row_spec kx_liT_13_0
  | 14 => fun _ h => absurd h List.not_mem_nil
  | 15 => fun _ h => absurd h List.not_mem_nil
  | 16 => fun _ h => absurd h List.not_mem_nil
  | 17 => fun _ h => absurd h List.not_mem_nil
  | 18 => fun _ h => absurd h List.not_mem_nil
  | 19 => fun _ h => absurd h List.not_mem_nil
  | 20 => fun _ h => absurd h List.not_mem_nil
  | _ + 21 => fun _ h => by simp [x_liT] at h
end XFacts2
