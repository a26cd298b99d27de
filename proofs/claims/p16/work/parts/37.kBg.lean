/-! M.greedy -/
theorem sx_k302_3 : sx_ckT sx_tc 32 3 5000 224 7 sx_c302 sx_z302 sx_t302_3 = true := by decide +kernel
theorem sx_k302_4 : sx_ckT sx_tc 32 3 5000 224 7 sx_c302 sx_z302 sx_t302_4 = true := by decide +kernel
