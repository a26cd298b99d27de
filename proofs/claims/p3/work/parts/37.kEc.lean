/-! M.greedy -/
theorem sx_k294_11 : sx_ckT sx_tc 32 3 5000 224 7 sx_c294 sx_z294 sx_t294_11 = true := by decide +kernel
theorem sx_k294_12 : sx_ckT sx_tc 32 3 5000 224 7 sx_c294 sx_z294 sx_t294_12 = true := by decide +kernel
theorem sx_k294_13 : sx_ckT sx_tc 32 3 5000 224 7 sx_c294 sx_z294 sx_t294_13 = true := by decide +kernel
theorem sx_k294_14 : sx_ckT sx_tc 32 3 5000 224 7 sx_c294 sx_z294 sx_t294_14 = true := by decide +kernel
theorem sx_k294_15 : sx_ckT sx_tc 32 3 5000 224 7 sx_c294 sx_z294 sx_t294_15 = true := by decide +kernel
theorem sx_k294_16 : sx_ckT sx_tc 32 3 5000 224 7 sx_c294 sx_z294 sx_t294_16 = true := by decide +kernel
