/-! The tables against the words, by the kernel: 1. -/
noncomputable section XFacts1
set_option maxRecDepth 100000 in
theorem kx_flT_0_0 : x_row (x_fchk 0) x_flT_0_0 = true := by decide +kernel
set_option maxRecDepth 100000 in
theorem kx_flT_0_1 : x_row (x_fchk 0) x_flT_0_1 = true := by decide +kernel
set_option maxRecDepth 100000 in
theorem kx_flT_0_2 : x_row (x_fchk 0) x_flT_0_2 = true := by decide +kernel
set_option maxRecDepth 100000 in
theorem kx_flT_1_0 : x_row (x_fchk 1) x_flT_1_0 = true := by decide +kernel
set_option maxRecDepth 100000 in
theorem kx_flT_2_0 : x_row (x_fchk 2) x_flT_2_0 = true := by decide +kernel
set_option maxRecDepth 100000 in
theorem kx_flT_3_0 : x_row (x_fchk 3) x_flT_3_0 = true := by decide +kernel
set_option maxRecDepth 100000 in
theorem kx_flT_4_0 : x_row (x_fchk 4) x_flT_4_0 = true := by decide +kernel
set_option maxRecDepth 100000 in
theorem kx_flT_5_0 : x_row (x_fchk 5) x_flT_5_0 = true := by decide +kernel
set_option maxRecDepth 100000 in
theorem kx_flT_6_0 : x_row (x_fchk 6) x_flT_6_0 = true := by decide +kernel
set_option maxRecDepth 100000 in
theorem kx_flT_7_0 : x_row (x_fchk 7) x_flT_7_0 = true := by decide +kernel
set_option maxRecDepth 100000 in
theorem kx_flT_8_0 : x_row (x_fchk 8) x_flT_8_0 = true := by decide +kernel
set_option maxRecDepth 100000 in
theorem kx_flT_9_0 : x_row (x_fchk 9) x_flT_9_0 = true := by decide +kernel
set_option maxRecDepth 100000 in
theorem kx_flT_10_0 : x_row (x_fchk 10) x_flT_10_0 = true := by decide +kernel
set_option maxRecDepth 100000 in
theorem kx_flT_11_0 : x_row (x_fchk 11) x_flT_11_0 = true := by decide +kernel
set_option maxRecDepth 100000 in
theorem kx_flT_12_0 : x_row (x_fchk 12) x_flT_12_0 = true := by decide +kernel
set_option maxRecDepth 100000 in
theorem kx_flT_12_1 : x_row (x_fchk 12) x_flT_12_1 = true := by decide +kernel
set_option maxRecDepth 100000 in
theorem kx_flT_12_2 : x_row (x_fchk 12) x_flT_12_2 = true := by decide +kernel
theorem x_k_fl : x_AllP x_fchk x_flT
  | 0 => List.forall_mem_append.mpr ⟨x_row_spec kx_flT_0_0, List.forall_mem_append.mpr ⟨x_row_spec kx_flT_0_1, x_row_spec kx_flT_0_2⟩⟩
  | 1 => x_row_spec kx_flT_1_0
  | 2 => x_row_spec kx_flT_2_0
  | 3 => x_row_spec kx_flT_3_0
  | 4 => x_row_spec kx_flT_4_0
  | 5 => x_row_spec kx_flT_5_0
  | 6 => x_row_spec kx_flT_6_0
  | 7 => x_row_spec kx_flT_7_0
  | 8 => x_row_spec kx_flT_8_0
  | 9 => x_row_spec kx_flT_9_0
  | 10 => x_row_spec kx_flT_10_0
  | 11 => x_row_spec kx_flT_11_0
  | 12 => List.forall_mem_append.mpr ⟨x_row_spec kx_flT_12_0, List.forall_mem_append.mpr ⟨x_row_spec kx_flT_12_1, x_row_spec kx_flT_12_2⟩⟩
  | 13 => fun _ h => absurd h List.not_mem_nil
  | 14 => fun _ h => absurd h List.not_mem_nil
  | 15 => fun _ h => absurd h List.not_mem_nil
  | 16 => fun _ h => absurd h List.not_mem_nil
  | 17 => fun _ h => absurd h List.not_mem_nil
  | 18 => fun _ h => absurd h List.not_mem_nil
  | 19 => fun _ h => absurd h List.not_mem_nil
  | 20 => fun _ h => absurd h List.not_mem_nil
  | _ + 21 => fun _ h => by simp [x_flT] at h
set_option maxRecDepth 100000 in
theorem kx_nwT_0_0 : x_row (x_nchk 0) x_nwT_0_0 = true := by decide +kernel
set_option maxRecDepth 100000 in
theorem kx_nwT_4_0 : x_row (x_nchk 4) x_nwT_4_0 = true := by decide +kernel
set_option maxRecDepth 100000 in
theorem kx_nwT_10_0 : x_row (x_nchk 10) x_nwT_10_0 = true := by decide +kernel
set_option maxRecDepth 100000 in
theorem kx_nwT_20_0 : x_row (x_nchk 20) x_nwT_20_0 = true := by decide +kernel
theorem x_k_nw : x_AllP x_nchk x_nwT
  | 0 => x_row_spec kx_nwT_0_0
  | 1 => fun _ h => absurd h List.not_mem_nil
  | 2 => fun _ h => absurd h List.not_mem_nil
  | 3 => fun _ h => absurd h List.not_mem_nil
  | 4 => x_row_spec kx_nwT_4_0
  | 5 => fun _ h => absurd h List.not_mem_nil
  | 6 => fun _ h => absurd h List.not_mem_nil
  | 7 => fun _ h => absurd h List.not_mem_nil
  | 8 => fun _ h => absurd h List.not_mem_nil
  | 9 => fun _ h => absurd h List.not_mem_nil
  | 10 => x_row_spec kx_nwT_10_0
  | 11 => fun _ h => absurd h List.not_mem_nil
  | 12 => fun _ h => absurd h List.not_mem_nil
  | 13 => fun _ h => absurd h List.not_mem_nil
  | 14 => fun _ h => absurd h List.not_mem_nil
  | 15 => fun _ h => absurd h List.not_mem_nil
  | 16 => fun _ h => absurd h List.not_mem_nil
  | 17 => fun _ h => absurd h List.not_mem_nil
  | 18 => fun _ h => absurd h List.not_mem_nil
  | 19 => fun _ h => absurd h List.not_mem_nil
  | 20 => x_row_spec kx_nwT_20_0
  | _ + 21 => fun _ h => by simp [x_nwT] at h
set_option maxRecDepth 100000 in
theorem kx_anT_0_0 : x_row (x_achk 0) x_anT_0_0 = true := by decide +kernel
theorem x_k_an : x_AllP x_achk x_anT
  | 0 => x_row_spec kx_anT_0_0
  | 1 => fun _ h => absurd h List.not_mem_nil
  | 2 => fun _ h => absurd h List.not_mem_nil
  | 3 => fun _ h => absurd h List.not_mem_nil
  | 4 => fun _ h => absurd h List.not_mem_nil
  | 5 => fun _ h => absurd h List.not_mem_nil
  | 6 => fun _ h => absurd h List.not_mem_nil
  | 7 => fun _ h => absurd h List.not_mem_nil
  | 8 => fun _ h => absurd h List.not_mem_nil
  | 9 => fun _ h => absurd h List.not_mem_nil
  | 10 => fun _ h => absurd h List.not_mem_nil
  | 11 => fun _ h => absurd h List.not_mem_nil
  | 12 => fun _ h => absurd h List.not_mem_nil
  | 13 => fun _ h => absurd h List.not_mem_nil
  | 14 => fun _ h => absurd h List.not_mem_nil
  | 15 => fun _ h => absurd h List.not_mem_nil
  | 16 => fun _ h => absurd h List.not_mem_nil
  | 17 => fun _ h => absurd h List.not_mem_nil
  | 18 => fun _ h => absurd h List.not_mem_nil
  | 19 => fun _ h => absurd h List.not_mem_nil
  | 20 => fun _ h => absurd h List.not_mem_nil
  | _ + 21 => fun _ h => by simp [x_anT] at h
set_option maxRecDepth 100000 in
theorem kx_mnT_12_0 : x_row (x_mchk 12) x_mnT_12_0 = true := by decide +kernel
theorem x_k_mn : x_AllP x_mchk x_mnT
  | 0 => fun _ h => absurd h List.not_mem_nil
  | 1 => fun _ h => absurd h List.not_mem_nil
  | 2 => fun _ h => absurd h List.not_mem_nil
  | 3 => fun _ h => absurd h List.not_mem_nil
  | 4 => fun _ h => absurd h List.not_mem_nil
  | 5 => fun _ h => absurd h List.not_mem_nil
  | 6 => fun _ h => absurd h List.not_mem_nil
  | 7 => fun _ h => absurd h List.not_mem_nil
  | 8 => fun _ h => absurd h List.not_mem_nil
  | 9 => fun _ h => absurd h List.not_mem_nil
  | 10 => fun _ h => absurd h List.not_mem_nil
  | 11 => fun _ h => absurd h List.not_mem_nil
  | 12 => x_row_spec kx_mnT_12_0
  | 13 => fun _ h => absurd h List.not_mem_nil
  | 14 => fun _ h => absurd h List.not_mem_nil
  | 15 => fun _ h => absurd h List.not_mem_nil
  | 16 => fun _ h => absurd h List.not_mem_nil
  | 17 => fun _ h => absurd h List.not_mem_nil
  | 18 => fun _ h => absurd h List.not_mem_nil
  | 19 => fun _ h => absurd h List.not_mem_nil
  | 20 => fun _ h => absurd h List.not_mem_nil
  | _ + 21 => fun _ h => by simp [x_mnT] at h
end XFacts1
