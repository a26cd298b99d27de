/-! M.greedy -/
theorem sx_k302_7 : sx_ckT sx_tc 32 3 5000 224 7 sx_c302 sx_z302 sx_t302_7 = true := by decide +kernel
theorem sx_k302_8 : sx_ckT sx_tc 32 3 5000 224 7 sx_c302 sx_z302 sx_t302_8 = true := by decide +kernel
