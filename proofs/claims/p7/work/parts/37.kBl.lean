/-! M.greedy -/
theorem sx_k300_5 : sx_ckT sx_tc 32 3 5000 224 7 sx_c300 sx_z300 sx_t300_5 = true := by decide +kernel
theorem sx_k300_6 : sx_ckT sx_tc 32 3 5000 224 7 sx_c300 sx_z300 sx_t300_6 = true := by decide +kernel
