/-! M.rules -/
theorem sx_k312_13 : sx_ckT sx_tc 52 0 5000 266 1 sx_c312 sx_z312 sx_t312_13 = true := by decide +kernel
theorem sx_k312_14 : sx_ckT sx_tc 52 0 5000 266 1 sx_c312 sx_z312 sx_t312_14 = true := by decide +kernel
theorem sx_k312_15 : sx_ckT sx_tc 52 0 5000 266 1 sx_c312 sx_z312 sx_t312_15 = true := by decide +kernel
theorem sx_k312_16 : sx_ckT sx_tc 52 0 5000 266 1 sx_c312 sx_z312 sx_t312_16 = true := by decide +kernel
theorem sx_k312_17 : sx_ckT sx_tc 52 0 5000 266 1 sx_c312 sx_z312 sx_t312_17 = true := by decide +kernel
theorem sx_k312_18 : sx_ckT sx_tc 52 0 5000 266 1 sx_c312 sx_z312 sx_t312_18 = true := by decide +kernel
theorem sx_k312_19 : sx_ckT sx_tc 52 0 5000 266 1 sx_c312 sx_z312 sx_t312_19 = true := by decide +kernel
theorem sx_k312_20 : sx_ckT sx_tc 52 0 5000 266 1 sx_c312 sx_z312 sx_t312_20 = true := by decide +kernel
theorem sx_k312_21 : sx_ckT sx_tc 52 0 5000 266 1 sx_c312 sx_z312 sx_t312_21 = true := by decide +kernel
theorem sx_k312_22 : sx_ckT sx_tc 52 0 5000 266 1 sx_c312 sx_z312 sx_t312_22 = true := by decide +kernel
theorem sx_k312_23 : sx_ckT sx_tc 52 0 5000 266 1 sx_c312 sx_z312 sx_t312_23 = true := by decide +kernel
theorem sx_k312_24 : sx_ckT sx_tc 52 0 5000 266 1 sx_c312 sx_z312 sx_t312_24 = true := by decide +kernel
theorem sx_k312_25 : sx_ckT sx_tc 52 0 5000 266 1 sx_c312 sx_z312 sx_t312_25 = true := by decide +kernel
theorem sx_k312_26 : sx_ckT sx_tc 52 0 5000 266 1 sx_c312 sx_z312 sx_t312_26 = true := by decide +kernel
