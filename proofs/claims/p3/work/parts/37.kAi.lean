/-! M.greedy -/
theorem sx_k299_7 : sx_ckT sx_tc 32 3 5000 224 7 sx_c299 sx_z299 sx_t299_7 = true := by decide +kernel
theorem sx_k299_8 : sx_ckT sx_tc 32 3 5000 224 7 sx_c299 sx_z299 sx_t299_8 = true := by decide +kernel
theorem sx_k299_9 : sx_ckT sx_tc 32 3 5000 224 7 sx_c299 sx_z299 sx_t299_9 = true := by decide +kernel
theorem sx_k299_10 : sx_ckT sx_tc 32 3 5000 224 7 sx_c299 sx_z299 sx_t299_10 = true := by decide +kernel
