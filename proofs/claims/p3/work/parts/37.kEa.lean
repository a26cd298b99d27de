/-! M.greedy -/
theorem sx_k294 : sx_ckE sx_tc 32 3 5000 224 7 sx_c294 sx_z294 = true := by decide +kernel
theorem sx_k294_0 : sx_ckT sx_tc 32 3 5000 224 7 sx_c294 sx_z294 sx_t294_0 = true := by decide +kernel
theorem sx_k294_1 : sx_ckT sx_tc 32 3 5000 224 7 sx_c294 sx_z294 sx_t294_1 = true := by decide +kernel
theorem sx_k294_2 : sx_ckT sx_tc 32 3 5000 224 7 sx_c294 sx_z294 sx_t294_2 = true := by decide +kernel
theorem sx_k294_3 : sx_ckT sx_tc 32 3 5000 224 7 sx_c294 sx_z294 sx_t294_3 = true := by decide +kernel
theorem sx_k294_4 : sx_ckT sx_tc 32 3 5000 224 7 sx_c294 sx_z294 sx_t294_4 = true := by decide +kernel
