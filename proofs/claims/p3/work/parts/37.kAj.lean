/-! M.greedy -/
theorem sx_k299_11 : sx_ckT sx_tc 32 3 5000 224 7 sx_c299 sx_z299 sx_t299_11 = true := by decide +kernel
theorem sx_k299_12 : sx_ckT sx_tc 32 3 5000 224 7 sx_c299 sx_z299 sx_t299_12 = true := by decide +kernel
theorem sx_k299_13 : sx_ckT sx_tc 32 3 5000 224 7 sx_c299 sx_z299 sx_t299_13 = true := by decide +kernel
theorem sx_k299_14 : sx_ckT sx_tc 32 3 5000 224 7 sx_c299 sx_z299 sx_t299_14 = true := by decide +kernel
