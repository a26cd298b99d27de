/-! M.rules -/
theorem sx_k312_27 : sx_ckT sx_tc 52 0 5000 266 1 sx_c312 sx_z312 sx_t312_27 = true := by decide +kernel
theorem sx_k312_28 : sx_ckT sx_tc 52 0 5000 266 1 sx_c312 sx_z312 sx_t312_28 = true := by decide +kernel
theorem sx_k312_29 : sx_ckT sx_tc 52 0 5000 266 1 sx_c312 sx_z312 sx_t312_29 = true := by decide +kernel
theorem sx_k312_30 : sx_ckT sx_tc 52 0 5000 266 1 sx_c312 sx_z312 sx_t312_30 = true := by decide +kernel
theorem sx_k312_31 : sx_ckT sx_tc 52 0 5000 266 1 sx_c312 sx_z312 sx_t312_31 = true := by decide +kernel
theorem sx_k312_32 : sx_ckT sx_tc 52 0 5000 266 1 sx_c312 sx_z312 sx_t312_32 = true := by decide +kernel
theorem sx_k312_33 : sx_ckT sx_tc 52 0 5000 266 1 sx_c312 sx_z312 sx_t312_33 = true := by decide +kernel
theorem sx_k312_34 : sx_ckT sx_tc 52 0 5000 266 1 sx_c312 sx_z312 sx_t312_34 = true := by decide +kernel
theorem sx_k312_35 : sx_ckT sx_tc 52 0 5000 266 1 sx_c312 sx_z312 sx_t312_35 = true := by decide +kernel
theorem sx_k312_36 : sx_ckT sx_tc 52 0 5000 266 1 sx_c312 sx_z312 sx_t312_36 = true := by decide +kernel
theorem sx_k312_37 : sx_ckT sx_tc 52 0 5000 266 1 sx_c312 sx_z312 sx_t312_37 = true := by decide +kernel
theorem sx_k312_38 : sx_ckT sx_tc 52 0 5000 266 1 sx_c312 sx_z312 sx_t312_38 = true := by decide +kernel
theorem sx_k312_39 : sx_ckT sx_tc 52 0 5000 266 1 sx_c312 sx_z312 sx_t312_39 = true := by decide +kernel
theorem sx_k312_40 : sx_ckT sx_tc 52 0 5000 266 1 sx_c312 sx_z312 sx_t312_40 = true := by decide +kernel
