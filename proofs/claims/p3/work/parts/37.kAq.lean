/-! M.reads -/
theorem sx_k320_23 : sx_ckT sx_tc 2 2 5000 262 7 sx_c320 sx_z320 sx_t320_23 = true := by decide +kernel
theorem sx_k320_24 : sx_ckT sx_tc 2 2 5000 262 7 sx_c320 sx_z320 sx_t320_24 = true := by decide +kernel
theorem sx_k320_25 : sx_ckT sx_tc 2 2 5000 262 7 sx_c320 sx_z320 sx_t320_25 = true := by decide +kernel
theorem sx_k320_26 : sx_ckT sx_tc 2 2 5000 262 7 sx_c320 sx_z320 sx_t320_26 = true := by decide +kernel
theorem sx_k320_27 : sx_ckT sx_tc 2 2 5000 262 7 sx_c320 sx_z320 sx_t320_27 = true := by decide +kernel
