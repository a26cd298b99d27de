/-! M.reads -/
theorem sx_k324_19 : sx_ckT sx_tc 2 2 5000 262 7 sx_c324 sx_z324 sx_t324_19 = true := by decide +kernel
theorem sx_k324_20 : sx_ckT sx_tc 2 2 5000 262 7 sx_c324 sx_z324 sx_t324_20 = true := by decide +kernel
theorem sx_k324_21 : sx_ckT sx_tc 2 2 5000 262 7 sx_c324 sx_z324 sx_t324_21 = true := by decide +kernel
theorem sx_k324_22 : sx_ckT sx_tc 2 2 5000 262 7 sx_c324 sx_z324 sx_t324_22 = true := by decide +kernel
theorem sx_k324_23 : sx_ckT sx_tc 2 2 5000 262 7 sx_c324 sx_z324 sx_t324_23 = true := by decide +kernel
theorem sx_k324_24 : sx_ckT sx_tc 2 2 5000 262 7 sx_c324 sx_z324 sx_t324_24 = true := by decide +kernel
theorem sx_k324_25 : sx_ckT sx_tc 2 2 5000 262 7 sx_c324 sx_z324 sx_t324_25 = true := by decide +kernel
theorem sx_k324_26 : sx_ckT sx_tc 2 2 5000 262 7 sx_c324 sx_z324 sx_t324_26 = true := by decide +kernel
theorem sx_k324_27 : sx_ckT sx_tc 2 2 5000 262 7 sx_c324 sx_z324 sx_t324_27 = true := by decide +kernel
theorem sx_k324_28 : sx_ckT sx_tc 2 2 5000 262 7 sx_c324 sx_z324 sx_t324_28 = true := by decide +kernel
