/-! M.reads -/
theorem sx_k324_79 : sx_ckT sx_tc 2 2 5000 262 7 sx_c324 sx_z324 sx_t324_79 = true := by decide +kernel
theorem sx_k324_80 : sx_ckT sx_tc 2 2 5000 262 7 sx_c324 sx_z324 sx_t324_80 = true := by decide +kernel
theorem sx_k324_81 : sx_ckT sx_tc 2 2 5000 262 7 sx_c324 sx_z324 sx_t324_81 = true := by decide +kernel
theorem sx_k324_82 : sx_ckT sx_tc 2 2 5000 262 7 sx_c324 sx_z324 sx_t324_82 = true := by decide +kernel
theorem sx_k324_83 : sx_ckT sx_tc 2 2 5000 262 7 sx_c324 sx_z324 sx_t324_83 = true := by decide +kernel
theorem sx_k324_84 : sx_ckT sx_tc 2 2 5000 262 7 sx_c324 sx_z324 sx_t324_84 = true := by decide +kernel
theorem sx_k324_85 : sx_ckT sx_tc 2 2 5000 262 7 sx_c324 sx_z324 sx_t324_85 = true := by decide +kernel
theorem sx_k324_86 : sx_ckT sx_tc 2 2 5000 262 7 sx_c324 sx_z324 sx_t324_86 = true := by decide +kernel
theorem sx_k324_87 : sx_ckT sx_tc 2 2 5000 262 7 sx_c324 sx_z324 sx_t324_87 = true := by decide +kernel
theorem sx_k324_88 : sx_ckT sx_tc 2 2 5000 262 7 sx_c324 sx_z324 sx_t324_88 = true := by decide +kernel
