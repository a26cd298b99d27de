/-! M.greedy -/
theorem sx_k299_19 : sx_ckT sx_tc 32 3 5000 224 7 sx_c299 sx_z299 sx_t299_19 = true := by decide +kernel
