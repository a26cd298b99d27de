/-! M.greedy -/
theorem sx_k302_13 : sx_ckT sx_tc 32 3 5000 224 7 sx_c302 sx_z302 sx_t302_13 = true := by decide +kernel
theorem sx_k302_14 : sx_ckT sx_tc 32 3 5000 224 7 sx_c302 sx_z302 sx_t302_14 = true := by decide +kernel
