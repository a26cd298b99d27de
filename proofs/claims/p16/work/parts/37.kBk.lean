/-! M.greedy -/
theorem sx_k302_11 : sx_ckT sx_tc 32 3 5000 224 7 sx_c302 sx_z302 sx_t302_11 = true := by decide +kernel
theorem sx_k302_12 : sx_ckT sx_tc 32 3 5000 224 7 sx_c302 sx_z302 sx_t302_12 = true := by decide +kernel
