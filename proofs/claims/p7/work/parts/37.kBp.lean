/-! M.greedy -/
theorem sx_k300_13 : sx_ckT sx_tc 32 3 5000 224 7 sx_c300 sx_z300 sx_t300_13 = true := by decide +kernel
theorem sx_k300_14 : sx_ckT sx_tc 32 3 5000 224 7 sx_c300 sx_z300 sx_t300_14 = true := by decide +kernel
