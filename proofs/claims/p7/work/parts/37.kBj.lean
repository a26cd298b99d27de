/-! M.greedy -/
theorem sx_k300_1 : sx_ckT sx_tc 32 3 5000 224 7 sx_c300 sx_z300 sx_t300_1 = true := by decide +kernel
theorem sx_k300_2 : sx_ckT sx_tc 32 3 5000 224 7 sx_c300 sx_z300 sx_t300_2 = true := by decide +kernel
