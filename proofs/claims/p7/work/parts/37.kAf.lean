/-! M.reads -/
theorem sx_k321_19 : sx_ckT sx_tc 2 2 5000 262 7 sx_c321 sx_z321 sx_t321_19 = true := by decide +kernel
theorem sx_k321_20 : sx_ckT sx_tc 2 2 5000 262 7 sx_c321 sx_z321 sx_t321_20 = true := by decide +kernel
theorem sx_k321_21 : sx_ckT sx_tc 2 2 5000 262 7 sx_c321 sx_z321 sx_t321_21 = true := by decide +kernel
theorem sx_k321_22 : sx_ckT sx_tc 2 2 5000 262 7 sx_c321 sx_z321 sx_t321_22 = true := by decide +kernel
theorem sx_k321_23 : sx_ckT sx_tc 2 2 5000 262 7 sx_c321 sx_z321 sx_t321_23 = true := by decide +kernel
