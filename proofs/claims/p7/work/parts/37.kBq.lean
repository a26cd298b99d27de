/-! M.greedy -/
theorem sx_k300_15 : sx_ckT sx_tc 32 3 5000 224 7 sx_c300 sx_z300 sx_t300_15 = true := by decide +kernel
theorem sx_k300_16 : sx_ckT sx_tc 32 3 5000 224 7 sx_c300 sx_z300 sx_t300_16 = true := by decide +kernel
