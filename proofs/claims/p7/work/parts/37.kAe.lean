/-! M.reads -/
theorem sx_k321_14 : sx_ckT sx_tc 2 2 5000 262 7 sx_c321 sx_z321 sx_t321_14 = true := by decide +kernel
theorem sx_k321_15 : sx_ckT sx_tc 2 2 5000 262 7 sx_c321 sx_z321 sx_t321_15 = true := by decide +kernel
theorem sx_k321_16 : sx_ckT sx_tc 2 2 5000 262 7 sx_c321 sx_z321 sx_t321_16 = true := by decide +kernel
theorem sx_k321_17 : sx_ckT sx_tc 2 2 5000 262 7 sx_c321 sx_z321 sx_t321_17 = true := by decide +kernel
theorem sx_k321_18 : sx_ckT sx_tc 2 2 5000 262 7 sx_c321 sx_z321 sx_t321_18 = true := by decide +kernel
