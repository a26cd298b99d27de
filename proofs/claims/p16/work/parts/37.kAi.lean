/-! M.reads -/
theorem sx_k324_69 : sx_ckT sx_tc 2 2 5000 262 7 sx_c324 sx_z324 sx_t324_69 = true := by decide +kernel
theorem sx_k324_70 : sx_ckT sx_tc 2 2 5000 262 7 sx_c324 sx_z324 sx_t324_70 = true := by decide +kernel
theorem sx_k324_71 : sx_ckT sx_tc 2 2 5000 262 7 sx_c324 sx_z324 sx_t324_71 = true := by decide +kernel
theorem sx_k324_72 : sx_ckT sx_tc 2 2 5000 262 7 sx_c324 sx_z324 sx_t324_72 = true := by decide +kernel
theorem sx_k324_73 : sx_ckT sx_tc 2 2 5000 262 7 sx_c324 sx_z324 sx_t324_73 = true := by decide +kernel
theorem sx_k324_74 : sx_ckT sx_tc 2 2 5000 262 7 sx_c324 sx_z324 sx_t324_74 = true := by decide +kernel
theorem sx_k324_75 : sx_ckT sx_tc 2 2 5000 262 7 sx_c324 sx_z324 sx_t324_75 = true := by decide +kernel
theorem sx_k324_76 : sx_ckT sx_tc 2 2 5000 262 7 sx_c324 sx_z324 sx_t324_76 = true := by decide +kernel
theorem sx_k324_77 : sx_ckT sx_tc 2 2 5000 262 7 sx_c324 sx_z324 sx_t324_77 = true := by decide +kernel
theorem sx_k324_78 : sx_ckT sx_tc 2 2 5000 262 7 sx_c324 sx_z324 sx_t324_78 = true := by decide +kernel
