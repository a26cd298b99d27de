/-! M.reads -/
theorem sx_k320_7 : sx_ckT sx_tc 2 2 5000 262 7 sx_c320 sx_z320 sx_t320_7 = true := by decide +kernel
theorem sx_k320_8 : sx_ckT sx_tc 2 2 5000 262 7 sx_c320 sx_z320 sx_t320_8 = true := by decide +kernel
theorem sx_k320_9 : sx_ckT sx_tc 2 2 5000 262 7 sx_c320 sx_z320 sx_t320_9 = true := by decide +kernel
theorem sx_k320_10 : sx_ckT sx_tc 2 2 5000 262 7 sx_c320 sx_z320 sx_t320_10 = true := by decide +kernel
theorem sx_k320_11 : sx_ckT sx_tc 2 2 5000 262 7 sx_c320 sx_z320 sx_t320_11 = true := by decide +kernel
theorem sx_k320_12 : sx_ckT sx_tc 2 2 5000 262 7 sx_c320 sx_z320 sx_t320_12 = true := by decide +kernel
theorem sx_k320_13 : sx_ckT sx_tc 2 2 5000 262 7 sx_c320 sx_z320 sx_t320_13 = true := by decide +kernel
theorem sx_k320_14 : sx_ckT sx_tc 2 2 5000 262 7 sx_c320 sx_z320 sx_t320_14 = true := by decide +kernel
