/-! M.greedy -/
theorem sx_k300_7 : sx_ckT sx_tc 32 3 5000 224 7 sx_c300 sx_z300 sx_t300_7 = true := by decide +kernel
theorem sx_k300_8 : sx_ckT sx_tc 32 3 5000 224 7 sx_c300 sx_z300 sx_t300_8 = true := by decide +kernel
