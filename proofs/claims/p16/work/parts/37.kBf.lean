/-! M.greedy -/
theorem sx_k302_1 : sx_ckT sx_tc 32 3 5000 224 7 sx_c302 sx_z302 sx_t302_1 = true := by decide +kernel
theorem sx_k302_2 : sx_ckT sx_tc 32 3 5000 224 7 sx_c302 sx_z302 sx_t302_2 = true := by decide +kernel
