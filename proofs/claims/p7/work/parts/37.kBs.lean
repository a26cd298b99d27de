/-! M.greedy -/
theorem sx_k300_19 : sx_ckT sx_tc 32 3 5000 224 7 sx_c300 sx_z300 sx_t300_19 = true := by decide +kernel
