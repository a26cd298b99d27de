/-! M.greedy -/
theorem sx_k299_3 : sx_ckT sx_tc 32 3 5000 224 7 sx_c299 sx_z299 sx_t299_3 = true := by decide +kernel
theorem sx_k299_4 : sx_ckT sx_tc 32 3 5000 224 7 sx_c299 sx_z299 sx_t299_4 = true := by decide +kernel
theorem sx_k299_5 : sx_ckT sx_tc 32 3 5000 224 7 sx_c299 sx_z299 sx_t299_5 = true := by decide +kernel
theorem sx_k299_6 : sx_ckT sx_tc 32 3 5000 224 7 sx_c299 sx_z299 sx_t299_6 = true := by decide +kernel
