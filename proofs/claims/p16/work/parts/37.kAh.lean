/-! M.reads -/
theorem sx_k324_59 : sx_ckT sx_tc 2 2 5000 262 7 sx_c324 sx_z324 sx_t324_59 = true := by decide +kernel
theorem sx_k324_60 : sx_ckT sx_tc 2 2 5000 262 7 sx_c324 sx_z324 sx_t324_60 = true := by decide +kernel
theorem sx_k324_61 : sx_ckT sx_tc 2 2 5000 262 7 sx_c324 sx_z324 sx_t324_61 = true := by decide +kernel
theorem sx_k324_62 : sx_ckT sx_tc 2 2 5000 262 7 sx_c324 sx_z324 sx_t324_62 = true := by decide +kernel
theorem sx_k324_63 : sx_ckT sx_tc 2 2 5000 262 7 sx_c324 sx_z324 sx_t324_63 = true := by decide +kernel
theorem sx_k324_64 : sx_ckT sx_tc 2 2 5000 262 7 sx_c324 sx_z324 sx_t324_64 = true := by decide +kernel
theorem sx_k324_65 : sx_ckT sx_tc 2 2 5000 262 7 sx_c324 sx_z324 sx_t324_65 = true := by decide +kernel
theorem sx_k324_66 : sx_ckT sx_tc 2 2 5000 262 7 sx_c324 sx_z324 sx_t324_66 = true := by decide +kernel
theorem sx_k324_67 : sx_ckT sx_tc 2 2 5000 262 7 sx_c324 sx_z324 sx_t324_67 = true := by decide +kernel
theorem sx_k324_68 : sx_ckT sx_tc 2 2 5000 262 7 sx_c324 sx_z324 sx_t324_68 = true := by decide +kernel
