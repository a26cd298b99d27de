/-! M.greedy -/
theorem sx_k299_15 : sx_ckT sx_tc 32 3 5000 224 7 sx_c299 sx_z299 sx_t299_15 = true := by decide +kernel
theorem sx_k299_16 : sx_ckT sx_tc 32 3 5000 224 7 sx_c299 sx_z299 sx_t299_16 = true := by decide +kernel
theorem sx_k299_17 : sx_ckT sx_tc 32 3 5000 224 7 sx_c299 sx_z299 sx_t299_17 = true := by decide +kernel
theorem sx_k299_18 : sx_ckT sx_tc 32 3 5000 224 7 sx_c299 sx_z299 sx_t299_18 = true := by decide +kernel
