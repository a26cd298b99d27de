/-! M.reads -/
theorem sx_k324_29 : sx_ckT sx_tc 2 2 5000 262 7 sx_c324 sx_z324 sx_t324_29 = true := by decide +kernel
theorem sx_k324_30 : sx_ckT sx_tc 2 2 5000 262 7 sx_c324 sx_z324 sx_t324_30 = true := by decide +kernel
theorem sx_k324_31 : sx_ckT sx_tc 2 2 5000 262 7 sx_c324 sx_z324 sx_t324_31 = true := by decide +kernel
theorem sx_k324_32 : sx_ckT sx_tc 2 2 5000 262 7 sx_c324 sx_z324 sx_t324_32 = true := by decide +kernel
theorem sx_k324_33 : sx_ckT sx_tc 2 2 5000 262 7 sx_c324 sx_z324 sx_t324_33 = true := by decide +kernel
theorem sx_k324_34 : sx_ckT sx_tc 2 2 5000 262 7 sx_c324 sx_z324 sx_t324_34 = true := by decide +kernel
theorem sx_k324_35 : sx_ckT sx_tc 2 2 5000 262 7 sx_c324 sx_z324 sx_t324_35 = true := by decide +kernel
theorem sx_k324_36 : sx_ckT sx_tc 2 2 5000 262 7 sx_c324 sx_z324 sx_t324_36 = true := by decide +kernel
theorem sx_k324_37 : sx_ckT sx_tc 2 2 5000 262 7 sx_c324 sx_z324 sx_t324_37 = true := by decide +kernel
theorem sx_k324_38 : sx_ckT sx_tc 2 2 5000 262 7 sx_c324 sx_z324 sx_t324_38 = true := by decide +kernel
