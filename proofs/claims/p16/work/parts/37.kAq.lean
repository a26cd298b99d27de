/-! M.rules -/
theorem sx_k312_41 : sx_ckT sx_tc 52 0 5000 266 1 sx_c312 sx_z312 sx_t312_41 = true := by decide +kernel
theorem sx_k312_42 : sx_ckT sx_tc 52 0 5000 266 1 sx_c312 sx_z312 sx_t312_42 = true := by decide +kernel
theorem sx_k312_43 : sx_ckT sx_tc 52 0 5000 266 1 sx_c312 sx_z312 sx_t312_43 = true := by decide +kernel
