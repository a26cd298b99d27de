/-! M.greedy -/
theorem sx_k300_17 : sx_ckT sx_tc 32 3 5000 224 7 sx_c300 sx_z300 sx_t300_17 = true := by decide +kernel
theorem sx_k300_18 : sx_ckT sx_tc 32 3 5000 224 7 sx_c300 sx_z300 sx_t300_18 = true := by decide +kernel
