/-! M.reads -/
theorem sx_k321_9 : sx_ckT sx_tc 2 2 5000 262 7 sx_c321 sx_z321 sx_t321_9 = true := by decide +kernel
theorem sx_k321_10 : sx_ckT sx_tc 2 2 5000 262 7 sx_c321 sx_z321 sx_t321_10 = true := by decide +kernel
theorem sx_k321_11 : sx_ckT sx_tc 2 2 5000 262 7 sx_c321 sx_z321 sx_t321_11 = true := by decide +kernel
theorem sx_k321_12 : sx_ckT sx_tc 2 2 5000 262 7 sx_c321 sx_z321 sx_t321_12 = true := by decide +kernel
theorem sx_k321_13 : sx_ckT sx_tc 2 2 5000 262 7 sx_c321 sx_z321 sx_t321_13 = true := by decide +kernel
