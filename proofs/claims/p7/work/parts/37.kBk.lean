/-! M.greedy -/
theorem sx_k300_3 : sx_ckT sx_tc 32 3 5000 224 7 sx_c300 sx_z300 sx_t300_3 = true := by decide +kernel
theorem sx_k300_4 : sx_ckT sx_tc 32 3 5000 224 7 sx_c300 sx_z300 sx_t300_4 = true := by decide +kernel
