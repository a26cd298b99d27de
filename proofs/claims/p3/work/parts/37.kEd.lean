/-! M.greedy -/
theorem sx_k294_17 : sx_ckT sx_tc 32 3 5000 224 7 sx_c294 sx_z294 sx_t294_17 = true := by decide +kernel
theorem sx_k294_18 : sx_ckT sx_tc 32 3 5000 224 7 sx_c294 sx_z294 sx_t294_18 = true := by decide +kernel
theorem sx_k294_19 : sx_ckT sx_tc 32 3 5000 224 7 sx_c294 sx_z294 sx_t294_19 = true := by decide +kernel
