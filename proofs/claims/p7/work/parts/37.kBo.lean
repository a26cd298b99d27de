/-! M.greedy -/
theorem sx_k300_11 : sx_ckT sx_tc 32 3 5000 224 7 sx_c300 sx_z300 sx_t300_11 = true := by decide +kernel
theorem sx_k300_12 : sx_ckT sx_tc 32 3 5000 224 7 sx_c300 sx_z300 sx_t300_12 = true := by decide +kernel
