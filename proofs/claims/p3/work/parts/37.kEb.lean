/-! M.greedy -/
theorem sx_k294_5 : sx_ckT sx_tc 32 3 5000 224 7 sx_c294 sx_z294 sx_t294_5 = true := by decide +kernel
theorem sx_k294_6 : sx_ckT sx_tc 32 3 5000 224 7 sx_c294 sx_z294 sx_t294_6 = true := by decide +kernel
theorem sx_k294_7 : sx_ckT sx_tc 32 3 5000 224 7 sx_c294 sx_z294 sx_t294_7 = true := by decide +kernel
theorem sx_k294_8 : sx_ckT sx_tc 32 3 5000 224 7 sx_c294 sx_z294 sx_t294_8 = true := by decide +kernel
theorem sx_k294_9 : sx_ckT sx_tc 32 3 5000 224 7 sx_c294 sx_z294 sx_t294_9 = true := by decide +kernel
theorem sx_k294_10 : sx_ckT sx_tc 32 3 5000 224 7 sx_c294 sx_z294 sx_t294_10 = true := by decide +kernel
