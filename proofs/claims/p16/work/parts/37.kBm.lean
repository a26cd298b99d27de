/-! M.greedy -/
theorem sx_k302_15 : sx_ckT sx_tc 32 3 5000 224 7 sx_c302 sx_z302 sx_t302_15 = true := by decide +kernel
theorem sx_k302_16 : sx_ckT sx_tc 32 3 5000 224 7 sx_c302 sx_z302 sx_t302_16 = true := by decide +kernel
