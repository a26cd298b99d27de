/-! M.greedy -/
theorem sx_k302_9 : sx_ckT sx_tc 32 3 5000 224 7 sx_c302 sx_z302 sx_t302_9 = true := by decide +kernel
theorem sx_k302_10 : sx_ckT sx_tc 32 3 5000 224 7 sx_c302 sx_z302 sx_t302_10 = true := by decide +kernel
