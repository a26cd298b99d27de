/-! M.greedy -/
theorem sx_k300_9 : sx_ckT sx_tc 32 3 5000 224 7 sx_c300 sx_z300 sx_t300_9 = true := by decide +kernel
theorem sx_k300_10 : sx_ckT sx_tc 32 3 5000 224 7 sx_c300 sx_z300 sx_t300_10 = true := by decide +kernel
