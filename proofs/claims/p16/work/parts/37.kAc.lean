/-! M.reads -/
theorem sx_k324_9 : sx_ckT sx_tc 2 2 5000 262 7 sx_c324 sx_z324 sx_t324_9 = true := by decide +kernel
theorem sx_k324_10 : sx_ckT sx_tc 2 2 5000 262 7 sx_c324 sx_z324 sx_t324_10 = true := by decide +kernel
theorem sx_k324_11 : sx_ckT sx_tc 2 2 5000 262 7 sx_c324 sx_z324 sx_t324_11 = true := by decide +kernel
theorem sx_k324_12 : sx_ckT sx_tc 2 2 5000 262 7 sx_c324 sx_z324 sx_t324_12 = true := by decide +kernel
theorem sx_k324_13 : sx_ckT sx_tc 2 2 5000 262 7 sx_c324 sx_z324 sx_t324_13 = true := by decide +kernel
theorem sx_k324_14 : sx_ckT sx_tc 2 2 5000 262 7 sx_c324 sx_z324 sx_t324_14 = true := by decide +kernel
theorem sx_k324_15 : sx_ckT sx_tc 2 2 5000 262 7 sx_c324 sx_z324 sx_t324_15 = true := by decide +kernel
theorem sx_k324_16 : sx_ckT sx_tc 2 2 5000 262 7 sx_c324 sx_z324 sx_t324_16 = true := by decide +kernel
theorem sx_k324_17 : sx_ckT sx_tc 2 2 5000 262 7 sx_c324 sx_z324 sx_t324_17 = true := by decide +kernel
theorem sx_k324_18 : sx_ckT sx_tc 2 2 5000 262 7 sx_c324 sx_z324 sx_t324_18 = true := by decide +kernel
