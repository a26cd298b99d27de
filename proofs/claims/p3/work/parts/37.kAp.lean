/-! M.reads -/
theorem sx_k320_15 : sx_ckT sx_tc 2 2 5000 262 7 sx_c320 sx_z320 sx_t320_15 = true := by decide +kernel
theorem sx_k320_16 : sx_ckT sx_tc 2 2 5000 262 7 sx_c320 sx_z320 sx_t320_16 = true := by decide +kernel
theorem sx_k320_17 : sx_ckT sx_tc 2 2 5000 262 7 sx_c320 sx_z320 sx_t320_17 = true := by decide +kernel
theorem sx_k320_18 : sx_ckT sx_tc 2 2 5000 262 7 sx_c320 sx_z320 sx_t320_18 = true := by decide +kernel
theorem sx_k320_19 : sx_ckT sx_tc 2 2 5000 262 7 sx_c320 sx_z320 sx_t320_19 = true := by decide +kernel
theorem sx_k320_20 : sx_ckT sx_tc 2 2 5000 262 7 sx_c320 sx_z320 sx_t320_20 = true := by decide +kernel
theorem sx_k320_21 : sx_ckT sx_tc 2 2 5000 262 7 sx_c320 sx_z320 sx_t320_21 = true := by decide +kernel
theorem sx_k320_22 : sx_ckT sx_tc 2 2 5000 262 7 sx_c320 sx_z320 sx_t320_22 = true := by decide +kernel
