/-! M.greedy -/
theorem sx_k302_5 : sx_ckT sx_tc 32 3 5000 224 7 sx_c302 sx_z302 sx_t302_5 = true := by decide +kernel
theorem sx_k302_6 : sx_ckT sx_tc 32 3 5000 224 7 sx_c302 sx_z302 sx_t302_6 = true := by decide +kernel
