/-! M.greedy -/
theorem sx_k302_17 : sx_ckT sx_tc 32 3 5000 224 7 sx_c302 sx_z302 sx_t302_17 = true := by decide +kernel
theorem sx_k302_18 : sx_ckT sx_tc 32 3 5000 224 7 sx_c302 sx_z302 sx_t302_18 = true := by decide +kernel
