/-! M.reads -/
theorem sx_k324_49 : sx_ckT sx_tc 2 2 5000 262 7 sx_c324 sx_z324 sx_t324_49 = true := by decide +kernel
theorem sx_k324_50 : sx_ckT sx_tc 2 2 5000 262 7 sx_c324 sx_z324 sx_t324_50 = true := by decide +kernel
theorem sx_k324_51 : sx_ckT sx_tc 2 2 5000 262 7 sx_c324 sx_z324 sx_t324_51 = true := by decide +kernel
theorem sx_k324_52 : sx_ckT sx_tc 2 2 5000 262 7 sx_c324 sx_z324 sx_t324_52 = true := by decide +kernel
theorem sx_k324_53 : sx_ckT sx_tc 2 2 5000 262 7 sx_c324 sx_z324 sx_t324_53 = true := by decide +kernel
theorem sx_k324_54 : sx_ckT sx_tc 2 2 5000 262 7 sx_c324 sx_z324 sx_t324_54 = true := by decide +kernel
theorem sx_k324_55 : sx_ckT sx_tc 2 2 5000 262 7 sx_c324 sx_z324 sx_t324_55 = true := by decide +kernel
theorem sx_k324_56 : sx_ckT sx_tc 2 2 5000 262 7 sx_c324 sx_z324 sx_t324_56 = true := by decide +kernel
theorem sx_k324_57 : sx_ckT sx_tc 2 2 5000 262 7 sx_c324 sx_z324 sx_t324_57 = true := by decide +kernel
theorem sx_k324_58 : sx_ckT sx_tc 2 2 5000 262 7 sx_c324 sx_z324 sx_t324_58 = true := by decide +kernel
