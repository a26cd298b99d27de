/-! M.reads -/
theorem sx_k324_39 : sx_ckT sx_tc 2 2 5000 262 7 sx_c324 sx_z324 sx_t324_39 = true := by decide +kernel
theorem sx_k324_40 : sx_ckT sx_tc 2 2 5000 262 7 sx_c324 sx_z324 sx_t324_40 = true := by decide +kernel
theorem sx_k324_41 : sx_ckT sx_tc 2 2 5000 262 7 sx_c324 sx_z324 sx_t324_41 = true := by decide +kernel
theorem sx_k324_42 : sx_ckT sx_tc 2 2 5000 262 7 sx_c324 sx_z324 sx_t324_42 = true := by decide +kernel
theorem sx_k324_43 : sx_ckT sx_tc 2 2 5000 262 7 sx_c324 sx_z324 sx_t324_43 = true := by decide +kernel
theorem sx_k324_44 : sx_ckT sx_tc 2 2 5000 262 7 sx_c324 sx_z324 sx_t324_44 = true := by decide +kernel
theorem sx_k324_45 : sx_ckT sx_tc 2 2 5000 262 7 sx_c324 sx_z324 sx_t324_45 = true := by decide +kernel
theorem sx_k324_46 : sx_ckT sx_tc 2 2 5000 262 7 sx_c324 sx_z324 sx_t324_46 = true := by decide +kernel
theorem sx_k324_47 : sx_ckT sx_tc 2 2 5000 262 7 sx_c324 sx_z324 sx_t324_47 = true := by decide +kernel
theorem sx_k324_48 : sx_ckT sx_tc 2 2 5000 262 7 sx_c324 sx_z324 sx_t324_48 = true := by decide +kernel
