/-! M.reads -/
theorem sx_k324_89 : sx_ckT sx_tc 2 2 5000 262 7 sx_c324 sx_z324 sx_t324_89 = true := by decide +kernel
theorem sx_k324_90 : sx_ckT sx_tc 2 2 5000 262 7 sx_c324 sx_z324 sx_t324_90 = true := by decide +kernel
theorem sx_k324_91 : sx_ckT sx_tc 2 2 5000 262 7 sx_c324 sx_z324 sx_t324_91 = true := by decide +kernel
theorem sx_k324_92 : sx_ckT sx_tc 2 2 5000 262 7 sx_c324 sx_z324 sx_t324_92 = true := by decide +kernel
theorem sx_k324_93 : sx_ckT sx_tc 2 2 5000 262 7 sx_c324 sx_z324 sx_t324_93 = true := by decide +kernel
theorem sx_k324_94 : sx_ckT sx_tc 2 2 5000 262 7 sx_c324 sx_z324 sx_t324_94 = true := by decide +kernel
theorem sx_k324_95 : sx_ckT sx_tc 2 2 5000 262 7 sx_c324 sx_z324 sx_t324_95 = true := by decide +kernel
theorem sx_k324_96 : sx_ckT sx_tc 2 2 5000 262 7 sx_c324 sx_z324 sx_t324_96 = true := by decide +kernel
theorem sx_k324_97 : sx_ckT sx_tc 2 2 5000 262 7 sx_c324 sx_z324 sx_t324_97 = true := by decide +kernel
